set_option maxRecDepth 8000 in
set_option maxHeartbeats 4000000 in
theorem c_X12_goWeeks {G : Gt} (hG : Gok G) {I : It} {h : Ht} (hM : HM h) {E : It} (hE : Inv E) (hA : Ag E I) {idl : Int32} {m : Nat} {a0 : WS} (hm : m ≤ 200) (hT : TS I idl a0) : Con G (6) 0 0 mX12_goWeeks [.ref 0, .int (nI m)] I h (qV (fun I' h' => TS I' idl (wksF E idl m (wk E) a0) ∧ Fr [34, 36, 37, 38, 39, 40] [18, 20] I I' ∧ h' = h)) := by
  refine con_intro (own := RX12) (lo0 := [some (.ref 0), some (.int (nI m)), none, none, none]) hG rfl pl_X12 (Nat.le_of_ble_eq_true rfl) rfl (fun X hX => ?_)
  have hA0 := hA
  have hw := inv_wk hE
  have loop21 : ∀ (k w : Nat) (a : WS) (J : It), w + k = wk E + m → wk E ≤ w → wksF E idl k w a = wksF E idl m (wk E) a0 → TS J idl a → Fr [34, 36, 37, 38, 39, 40] [18, 20] I J → GG G (6) 0 0 X (qV (fun I' h' => TS I' idl (wksF E idl m (wk E) a0) ∧ Fr [34, 36, 37, 38, 39, 40] [18, 20] I I' ∧ h' = h)) 21 [some (.ref 0), some (.int (nI m)), some (.int (callF E)), some (.int (fadeF E)), some (.int (nI w))] [] (J) (h) 0 0 := by
    intro k
    induction k using Nat.strongRecOn with | _ k ih => ?_
    intro w a J hk hw1 hv hT hfr
    have hA := Ag.keep hA0 hfr (by decide) (by decide)
    obtain ⟨had, kn1, co1, st1, ca1, fw1, fd1⟩ := a
    refine g_iload_4 hX (dk DX12_goWeeks 13 rfl) ?_
    refine g_aload_0 hX (dk DX12_goWeeks 14 rfl) ?_
    refine g_getIv hX (dk DX12_goWeeks 15 rfl) KX12 fX12_13 (by decide) rfl (MLt hM (by decide)) (MC hM) (hA.1.2.1.trans hw.1) ?_
    refine g_iload_1 hX (dk DX12_goWeeks 16 rfl) ?_
    refine g_iadd hX (dk DX12_goWeeks 17 rfl) ?_
    refine g_icmp_ge (tgt := 50) hX (dk DX12_goWeeks 18 rfl) (by decide) (fun hc1 => ?_) (fun hc1 => ?_)
    · refine g_return hX (dk DX12_goWeeks 29 rfl) rfl (by decide) (by decide) ?_
      rw [nI_add] at hc1
      have hk0 := ct_end hk (by omega) hc1
      subst hk0
      exact qV_of ⟨by rw [← hv]; exact hT, hfr, rfl⟩
    · rw [nI_add] at hc1
      obtain ⟨k, rfl⟩ := ct_go hk (by omega) hc1
      refine g_aload_0 hX (dk DX12_goWeeks 19 rfl) ?_
      refine g_iload_4 hX (dk DX12_goWeeks 20 rfl) ?_
      refine g_iload_2 hX (dk DX12_goWeeks 21 rfl) ?_
      refine g_iload_3 hX (dk DX12_goWeeks 22 rfl) ?_
      refine g_iload_4 hX (dk DX12_goWeeks 23 rfl) ?_
      refine g_imul hX (dk DX12_goWeeks 24 rfl) ?_
      refine g_isub hX (dk DX12_goWeeks 25 rfl) ?_
      refine g_c3v hX sX12_goWeeks_41 (by decide) (Nat.le_of_ble_eq_true rfl) (rc0 rfl (MLt hM (by decide)) (MC hM)) (by decide) (by decide) (c_X12_goWeek hG hM hE hA hw1 (by omega) (show TS J idl (0, kn1, co1, st1, ca1, fw1, fd1) from hT)) ?_
      rintro J2 _ ⟨hT2, hfr2, rfl⟩
      have hfr := hfr.trans hfr2
      refine g_iinc_4 hX (dk DX12_goWeeks 27 rfl) (nI_1 w) (by decide) rfl ?_
      refine g_goto (tgt := 21) hX (dk DX12_goWeeks 28 rfl) (by decide) ?_
      exact ih k (by omega) (w + 1) (wkF E idl w (had, kn1, co1, st1, ca1, fw1, fd1)) J2 (by omega) (by omega) (by rw [← hv, wksF_s]) hT2 hfr
  refine g_aload_0 hX (dk DX12_goWeeks 0 rfl) ?_
  refine g_iconst (v := 2) hX (dk DX12_goWeeks 1 rfl) (by decide) ?_
  refine g_bipush (v := 7) hX (dk DX12_goWeeks 2 rfl) (by decide) ?_
  refine g_c3I hX sX12_goWeeks_4 (by decide) (Nat.le_of_ble_eq_true rfl) (rc0 rfl (MLt hM (by decide)) (MC hM)) (by decide) (by decide) (c_X12_lastOf hG hM hE hA) ?_
  refine g_istore_2 hX (dk DX12_goWeeks 4 rfl) (by decide) rfl ?_
  refine g_aload_0 hX (dk DX12_goWeeks 5 rfl) ?_
  refine g_iconst (v := 3) hX (dk DX12_goWeeks 6 rfl) (by decide) ?_
  refine g_iconst (v := 1) hX (dk DX12_goWeeks 7 rfl) (by decide) ?_
  refine g_c3I hX sX12_goWeeks_11 (by decide) (Nat.le_of_ble_eq_true rfl) (rc0 rfl (MLt hM (by decide)) (MC hM)) (by decide) (by decide) (c_X12_lastOf hG hM hE hA) ?_
  refine g_istore_3 hX (dk DX12_goWeeks 9 rfl) (by decide) rfl ?_
  refine g_aload_0 hX (dk DX12_goWeeks 10 rfl) ?_
  refine g_getIv hX (dk DX12_goWeeks 11 rfl) KX12 fX12_13 (by decide) rfl (MLt hM (by decide)) (MC hM) (hA.1.2.1.trans hw.1) ?_
  refine g_istore_4 hX (dk DX12_goWeeks 12 rfl) (by decide) rfl ?_
  exact g_fgt (loop21 m (wk E) a0 I rfl (Nat.le_refl _) rfl hT Fr.rf) ⟨rfl, rfl, rfl, rfl, rfl, trivial⟩

set_option maxRecDepth 8000 in
set_option maxHeartbeats 4000000 in
theorem c_X12_costBy {G : Gt} (hG : Gok G) {I : It} {h : Ht} (hM : HM h) {E : It} (hE : Inv E) (hA : Ag E I) {a b : Int32} {m : Nat} (hm : m ≤ 200) : Con G (7) 0 0 mX12_costBy [.ref 0, .int a, .int b, .int (nI m)] I h (qF (costF E a b m) [34, 35, 36, 37, 38, 39, 40] [18, 20] I h) := by
  refine con_intro (own := RX12) (lo0 := [some (.ref 0), some (.int a), some (.int b), some (.int (nI m))]) hG rfl pl_X12 (Nat.le_of_ble_eq_true rfl) rfl (fun X hX => ?_)
  refine g_aload_0 hX (dk DX12_costBy 0 rfl) ?_
  refine g_iload_1 hX (dk DX12_costBy 1 rfl) ?_
  refine g_iload_2 hX (dk DX12_costBy 2 rfl) ?_
  refine g_c3v hX sX12_costBy_3 (by decide) (Nat.le_of_ble_eq_true rfl) (rc0 rfl (MLt hM (by decide)) (MC hM)) (by decide) (by decide) (c_X12_begins hG hM) ?_
  rintro J _ ⟨hT, hfr, rfl⟩
  have hA := Ag.keep hA hfr (by decide) (by decide)
  refine g_aload_0 hX (dk DX12_costBy 4 rfl) ?_
  refine g_iload_3 hX (dk DX12_costBy 5 rfl) ?_
  refine g_c2v hX sX12_costBy_8 (by decide) (Nat.le_of_ble_eq_true rfl) (rc0 rfl (MLt hM (by decide)) (MC hM)) (by decide) (by decide) (c_X12_goWeeks hG hM hE hA hm hT) ?_
  rintro J2 _ ⟨hT2, hfr2, rfl⟩
  have hfr := (hfr.mono (F' := [34, 35, 36, 37, 38, 39, 40]) (C' := [18, 20]) (by decide) (by decide)).trans (hfr2.mono (by decide) (by decide))
  obtain ⟨⟨had, kn1, co1, st1, ca1, fw1, fd1⟩, ha2⟩ : ∃ a2, a2 = runF E a b m := ⟨_, rfl⟩
  have hT2 : TS J2 b (had, kn1, co1, st1, ca1, fw1, fd1) := by rw [ha2]; exact hT2
  refine g_aload_0 hX (dk DX12_costBy 7 rfl) ?_
  refine g_getIv hX (dk DX12_costBy 8 rfl) KX12 fX12_120 (by decide) rfl (MLt hM (by decide)) (MC hM) (hT2.2.2.1) ?_
  refine g_ireturn hX (dk DX12_costBy 9 rfl) rfl (rfl) (by decide) (by decide) ?_
  exact qF_of (by unfold costF; rw [← ha2]) hfr

set_option maxRecDepth 8000 in
set_option maxHeartbeats 4000000 in
theorem c_X12_laySaid {G : Gt} (hG : Gok G) {I : It} {h : Ht} (hM : HM h) {E : It} (hE : Inv E) (hA : Ag E I)  : Con G (4) 0 0 mX12_laySaid [.ref 0] I h (qV (fun I' h' => SY E I' ∧ Fr [] [18, 19] I I' ∧ h' = h)) := by
  refine con_intro (own := RX12) (lo0 := [some (.ref 0), none, none]) hG rfl pl_X12 (Nat.le_of_ble_eq_true rfl) rfl (fun X hX => ?_)
  have hA0 := hA
  have hc10 := inv_cnt hE
  have loop2 : ∀ (k i : Nat) (J : It), i + k = cnt E → (∀ a, a < i → ∀ y, y < 4 → J 19 (4 * a + y) = sayF E a (nI y)) → Fr [] [18, 19] I J → GG G (4) 0 0 X (qV (fun I' h' => SY E I' ∧ Fr [] [18, 19] I I' ∧ h' = h)) 2 [some (.ref 0), some (.int (nI i)), none] [] (J) (h) 0 0 := by
    intro k
    induction k using Nat.strongRecOn with | _ k ih => ?_
    intro i J hk hS hfr
    have hA := Ag.keep hA0 hfr (by decide) (by decide)
    refine g_iload_1 hX (dk DX12_laySaid 2 rfl) ?_
    refine g_aload_0 hX (dk DX12_laySaid 3 rfl) ?_
    refine g_getIv hX (dk DX12_laySaid 4 rfl) KX12 fX12_7 (by decide) rfl (MLt hM (by decide)) (MC hM) (hA.1.1.trans hc10.1) ?_
    refine g_icmp_ge (tgt := 47) hX (dk DX12_laySaid 5 rfl) (by decide) (fun hc1 => ?_) (fun hc1 => ?_)
    · refine g_return hX (dk DX12_laySaid 29 rfl) rfl (by decide) (by decide) ?_
      have hk0 := cl_end hk (by omega) hc1
      subst hk0
      exact qV_of ⟨fun a ha => hS a (by omega), hfr, rfl⟩
    · obtain ⟨k, rfl⟩ := cl_go hk (by omega) hc1
      have hi10 : i < 10 := by omega
      refine g_iconst (v := 0) hX (dk DX12_laySaid 6 rfl) (by decide) ?_
      refine g_istore_2 hX (dk DX12_laySaid 7 rfl) (by decide) rfl ?_
      have inner : ∀ (q y : Nat) (K : It), y + q = 4 → (∀ a, a < i → ∀ y, y < 4 → K 19 (4 * a + y) = sayF E a (nI y)) → (∀ z, z < y → K 19 (4 * i + z) = sayF E i (nI z)) → Fr [] [18, 19] I K → GG G 4 0 0 X (qV (fun I' h' => SY E I' ∧ Fr [] [18, 19] I I' ∧ h' = h)) 12 [some (.ref 0), some (.int (nI i)), some (.int (nI y))] [] K h 0 0 := by
        intro q
        induction q using Nat.strongRecOn with | _ q ihq => ?_
        intro y K hq hS1 hS2 hfr
        have hA := Ag.keep hA0 hfr (by decide) (by decide)
        refine g_iload_2 hX (dk DX12_laySaid 8 rfl) ?_
        refine g_iconst (v := 4) hX (dk DX12_laySaid 9 rfl) (by decide) ?_
        refine g_icmp_ge (tgt := 41) hX (dk DX12_laySaid 10 rfl) (by decide) (fun hc101 => ?_) (fun hc101 => ?_)
        · refine g_iinc_1 hX (dk DX12_laySaid 27 rfl) (nI_1 i) (by decide) rfl ?_
          refine g_goto (tgt := 2) hX (dk DX12_laySaid 28 rfl) (by decide) ?_
          have hq0 : q = 0 := cl_end (e := 4) hq (by decide) hc101
          exact g_fgt (ih k (by omega) (i + 1) K (by omega) (fun a ha z hz => by
            by_cases e : a = i
            · subst e; exact hS2 z (by omega)
            · exact hS1 a (by omega) z hz) hfr) ⟨rfl, rfl, trivial⟩
        · obtain ⟨q, rfl⟩ : ∃ z, q = z + 1 := cl_go (e := 4) hq (by decide) hc101
          have hy4 : y < 4 := by omega
          refine g_aload_0 hX (dk DX12_laySaid 11 rfl) ?_
          refine g_getRs (r := 19) hX (dk DX12_laySaid 12 rfl) KX12 fX12_111 (by decide) rfl (MLt hM (by decide)) (MC hM) (MR hM 33 (by decide) rfl) ?_
          refine g_iconst (v := 4) hX (dk DX12_laySaid 13 rfl) (by decide) ?_
          refine g_iload_1 hX (dk DX12_laySaid 14 rfl) ?_
          refine g_imul hX (dk DX12_laySaid 15 rfl) ?_
          refine g_iload_2 hX (dk DX12_laySaid 16 rfl) ?_
          refine g_iadd hX (dk DX12_laySaid 17 rfl) ?_
          refine g_aload_0 hX (dk DX12_laySaid 18 rfl) ?_
          refine g_iconst (v := 0) hX (dk DX12_laySaid 19 rfl) (by decide) ?_
          refine g_iload_1 hX (dk DX12_laySaid 20 rfl) ?_
          refine g_iload_2 hX (dk DX12_laySaid 21 rfl) ?_
          refine g_iconst (v := 0) hX (dk DX12_laySaid 22 rfl) (by decide) ?_
          refine g_c5q hX sX12_laySaid_31 (by decide) (Nat.le_of_ble_eq_true rfl) (rc0 rfl (MLt hM (by decide)) (MC hM)) (by decide) (by decide) (c_X12_sumOf hG hM hE hA hi10 (Or.inl rfl)) ?_
          rintro _ J2 _ ⟨rfl, hfr2, rfl⟩
          refine i_iastore hX (dk DX12_laySaid 24 rfl) (MLt hM (q := 19) (by decide)) (MS hM 19 (by decide) rfl) (⟨by rw [show (4 : Int32) = nI 4 from rfl, pk_mul, nI_add], by omega, by decide⟩) ?_
          refine g_gen (fun J3 hJ3 => ?_)
          have e19 : ∀ z, J2 19 z = K 19 z := fun z => congrFun (hfr2.2 19 (by decide) (by decide)) z
          have hfr := (hfr.trans (hfr2.mono (F' := []) (C' := [18, 19]) (by decide) (by decide))).trans (show Fr [] [18, 19] J2 J3 by rw [hJ3]; exact Fr.rf.pc (by decide) (by decide))
          refine g_iinc_2 hX (dk DX12_laySaid 25 rfl) (nI_1 y) (by decide) rfl ?_
          refine g_goto (tgt := 12) hX (dk DX12_laySaid 26 rfl) (by decide) ?_
          exact ihq q (by omega) (y + 1) J3 (by omega) (fun a ha z hz => by rw [hJ3, upn (by omega), e19]; exact hS1 a ha z hz) (fun z hz => by
            rw [hJ3]
            by_cases e : z = y
            · subst e; rw [up0]; rfl
            · rw [upn (by omega), e19]; exact hS2 z (by omega)) hfr
      exact inner 4 0 J rfl hS (fun z hz => absurd hz (Nat.not_lt_zero z)) hfr
  refine g_iconst (v := 0) hX (dk DX12_laySaid 0 rfl) (by decide) ?_
  refine g_istore_1 hX (dk DX12_laySaid 1 rfl) (by decide) rfl ?_
  exact g_fgt (loop2 (cnt E) 0 I (Nat.zero_add _) (fun i hi => absurd hi (Nat.not_lt_zero i)) Fr.rf) ⟨rfl, rfl, trivial⟩

