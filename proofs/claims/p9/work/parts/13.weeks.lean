set_option maxRecDepth 8000 in
set_option maxHeartbeats 4000000 in
theorem c_X12_sumOf {G : Gt} (hG : Gok G) {I : It} {h : Ht} (hM : HM h) {E : It} (hE : Inv E) (hA : Ag E I) {what y w : Int32} {d : Nat} (hd : d < 10) (hwt : what = 0 ∨ what = 1) : Con G (3) 0 0 mX12_sumOf [.ref 0, .int what, .int (nI d), .int y, .int w] I h (qF (sumP E what d y w) [] [18] I h) := by
  refine con_intro (own := RX12) (lo0 := [some (.ref 0), some (.int what), some (.int (nI d)), some (.int y), some (.int w), none, none]) hG rfl pl_X12 (Nat.le_of_ble_eq_true rfl) rfl (fun X hX => ?_)
  have loop9 : ∀ (k c : Nat) (z : Int32) (J : It), c + k = beg E + ncl E → beg E ≤ c → sumF E what d y w k c z = sumP E what d y w → Fr [] [18] I J → GG G (3) 0 0 X (qF (sumP E what d y w) [] [18] I h) 9 [some (.ref 0), some (.int what), some (.int (nI d)), some (.int y), some (.int w), some (.int z), some (.int (nI c))] [] (J) (h) 0 0 := by
    intro k
    induction k using Nat.strongRecOn with | _ k ih => ?_
    intro c z J hk hbc hv hfr
    have hA := Ag.keep hA hfr (by decide) (by decide)
    have hb := beg_le hE
    refine g_iload_6 hX (dk DX12_sumOf 5 rfl) ?_
    refine g_aload_0 hX (dk DX12_sumOf 6 rfl) ?_
    refine g_c1I hX sX12_sumOf_12 (by decide) (Nat.le_of_ble_eq_true rfl) (rc0 rfl (MLt hM (by decide)) (MC hM)) (by decide) (by decide) (c_X12_behind hG hM hE hA) ?_
    refine g_icmp_ge (tgt := 64) hX (dk DX12_sumOf 8 rfl) (by decide) (fun hc1 => ?_) (fun hc1 => ?_)
    · refine g_iload_5 hX (dk DX12_sumOf 33 rfl) ?_
      refine g_ireturn hX (dk DX12_sumOf 34 rfl) rfl (rfl) (by decide) (by decide) ?_
      have hk0 := cl_end hk hb.1 hc1
      subst hk0
      exact qF_of hv hfr
    · obtain ⟨k, rfl⟩ := cl_go hk hb.1 hc1
      have hw := Ag.w hE hA (c := c) (by omega)
      refine g_iload_5 hX (dk DX12_sumOf 9 rfl) ?_
      refine g_aload_0 hX (dk DX12_sumOf 10 rfl) ?_
      refine g_getRs (r := 11) hX (dk DX12_sumOf 11 rfl) KX12 fX12_77 (by decide) rfl (MLt hM (by decide)) (MC hM) (MR hM 22 (by decide) rfl) ?_
      refine g_iload_6 hX (dk DX12_sumOf 12 rfl) ?_
      refine i_iaload hX (dk DX12_sumOf 13 rfl) (MLt hM (q := 11) (by decide)) (MS hM 11 (by decide) rfl) (hw.1) ?_
      refine g_iload_1 hX (dk DX12_sumOf 14 rfl) ?_
      refine g_icmp_ne (tgt := 54) hX (dk DX12_sumOf 15 rfl) (by decide) (fun hc2 => ?_) (fun hc2 => ?_)
      · have hif : (if E 11 c = what ∧ holdsF E c d y w = true then E 12 c else 0) = 0 := by
          rw [if_neg]
          rintro ⟨e1, e2⟩
          first | exact hc2 (hw.2.1.trans e1) | exact hc2 e2
        refine g_iconst (v := 0) hX (dk DX12_sumOf 28 rfl) (by decide) ?_
        refine g_iadd hX (dk DX12_sumOf 29 rfl) ?_
        refine g_istore_5 hX (dk DX12_sumOf 30 rfl) (by decide) rfl ?_
        refine g_iinc_6 hX (dk DX12_sumOf 31 rfl) (nI_1 c) (by decide) rfl ?_
        refine g_goto (tgt := 9) hX (dk DX12_sumOf 32 rfl) (by decide) ?_
        exact ih k (by omega) (c + 1) _ _ (by omega) (by omega) (by rw [← hv, sumF_s, hif]) hfr
      · obtain ⟨p, hp, hc60, hcl⟩ := cl_of hE hbc (by omega)
        have hew : E 11 c = what := hw.2.1.symm.trans hc2
        have hwd : E 11 c = 0 ∨ E 11 c = 1 := by rw [hew]; exact hwt
        refine g_aload_0 hX (dk DX12_sumOf 16 rfl) ?_
        refine g_iload_6 hX (dk DX12_sumOf 17 rfl) ?_
        refine g_iload_2 hX (dk DX12_sumOf 18 rfl) ?_
        refine g_iload_3 hX (dk DX12_sumOf 19 rfl) ?_
        refine g_iload_4 hX (dk DX12_sumOf 20 rfl) ?_
        refine g_c5q hX sX12_sumOf_38 (by decide) (Nat.le_of_ble_eq_true rfl) (rc0 rfl (MLt hM (by decide)) (MC hM)) (by decide) (by decide) (c_X12_holds hG hM hE hA hd hp hc60 hcl hwd) ?_
        rintro _ J2 _ ⟨rfl, hfr2, rfl⟩
        have hfr := hfr.trans hfr2
        have hA := Ag.keep hA hfr2 (by decide) (by decide)
        have hw := Ag.w hE hA (c := c) (by omega)
        refine g_ifb_eq (tgt := 54) hX (dk DX12_sumOf 22 rfl) (by decide) (fun hc3 => ?_) (fun hc3 => ?_)
        · have hif : (if E 11 c = what ∧ holdsF E c d y w = true then E 12 c else 0) = 0 := by
            rw [if_neg]
            rintro ⟨e1, e2⟩
            first | exact hc3 (hw.2.1.trans e1) | exact hc3 e2
          refine g_iconst (v := 0) hX (dk DX12_sumOf 28 rfl) (by decide) ?_
          refine g_iadd hX (dk DX12_sumOf 29 rfl) ?_
          refine g_istore_5 hX (dk DX12_sumOf 30 rfl) (by decide) rfl ?_
          refine g_iinc_6 hX (dk DX12_sumOf 31 rfl) (nI_1 c) (by decide) rfl ?_
          refine g_goto (tgt := 9) hX (dk DX12_sumOf 32 rfl) (by decide) ?_
          exact ih k (by omega) (c + 1) _ _ (by omega) (by omega) (by rw [← hv, sumF_s, hif]) hfr
        · have hif : (if E 11 c = what ∧ holdsF E c d y w = true then E 12 c else 0) = E 12 c := if_pos ⟨hew, hc3⟩
          refine g_aload_0 hX (dk DX12_sumOf 23 rfl) ?_
          refine g_getRs (r := 12) hX (dk DX12_sumOf 24 rfl) KX12 fX12_80 (by decide) rfl (MLt hM (by decide)) (MC hM) (MR hM 23 (by decide) rfl) ?_
          refine g_iload_6 hX (dk DX12_sumOf 25 rfl) ?_
          refine v_iaload hX (dk DX12_sumOf 26 rfl) (MLt hM (q := 12) (by decide)) (MS hM 12 (by decide) rfl) (hw.1) (hw.2.2.1) ?_
          refine g_goto (tgt := 55) hX (dk DX12_sumOf 27 rfl) (by decide) ?_
          refine g_iadd hX (dk DX12_sumOf 29 rfl) ?_
          refine g_istore_5 hX (dk DX12_sumOf 30 rfl) (by decide) rfl ?_
          refine g_iinc_6 hX (dk DX12_sumOf 31 rfl) (nI_1 c) (by decide) rfl ?_
          refine g_goto (tgt := 9) hX (dk DX12_sumOf 32 rfl) (by decide) ?_
          exact ih k (by omega) (c + 1) _ _ (by omega) (by omega) (by rw [← hv, sumF_s, hif]) hfr
  refine g_iconst (v := 0) hX (dk DX12_sumOf 0 rfl) (by decide) ?_
  refine g_istore_5 hX (dk DX12_sumOf 1 rfl) (by decide) rfl ?_
  refine g_aload_0 hX (dk DX12_sumOf 2 rfl) ?_
  refine g_c1I hX sX12_sumOf_4 (by decide) (Nat.le_of_ble_eq_true rfl) (rc0 rfl (MLt hM (by decide)) (MC hM)) (by decide) (by decide) (c_X12_begin hG hM hE hA) ?_
  refine g_istore_6 hX (dk DX12_sumOf 4 rfl) (by decide) rfl ?_
  exact loop9 (ncl E) (beg E) 0 I rfl (Nat.le_refl _) rfl Fr.rf

