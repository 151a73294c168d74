def upH (hr : Nat → Int32) (y : Nat) : Nat → Int32 := upd hr y (hr y + 1)
theorem cE_costHanded {G : Gt} (hG : Gok G) {I : It} {h : Ht} (hM : HM h) {E : It} (hE : Inv E) (hA : Ag E I) {m : Nat} (hm : m ≤ 200) (hS : SY E I) {hr : Nat → Int32} (h8 : I 8 = hr) (h5 : I 0 5 = E 0 5) (h6 : I 0 6 = E 0 6) : Con G 8 0 0 mX12_costHanded [.ref 0, .int (nI m)] I h (qF (hcF E hr m) [34, 35, 36, 37, 38, 39, 40] [18, 20] I h) := by
  have hc := c_X12_costHanded hG hM hE hA hm hS
  rw [h8, h5, h6] at hc
  exact hc
def moreS (E : It) (y n : Int32) : Int32 × It := if ¬ (0 ≤ y ∧ y ≤ 3) then (-10001, E) else if ¬ (0 ≤ n ∧ n ≤ 60) then (-10002, E) else if E 8 (tN y) = 9 then (0, E) else (hcF E (E 8) (tN n) - hcF E (upH (E 8) (tN y)) (tN n), E)
def askS (E : It) (n : Int32) : Int32 × It := if ¬ (0 ≤ n ∧ n ≤ 60) then (-2, E) else (askF E (tN n), E)
def dropS (E : It) (n : Int32) : Int32 × It := if ¬ (0 ≤ n ∧ n ≤ 60) then (-2, E) else (dropF E (tN n), E)
def whenS (E : It) (a : Int32) : Int32 × It := if ¬ isD E a then (-1, E) else (nI (whR E (tN a) 60 (wk E)), E)
def busiestS (E : It) (n w : Int32) : Int32 × It := if ¬ (0 ≤ w ∧ w ≤ 1) then (-1, E) else if ¬ (1 ≤ n ∧ n ≤ 200) then (-2, E) else if w = 0 then (nI (bsR E (tN n - 1) (wk E + 1) (wk E)), E) else (manyF E (bsR E (tN n - 1) (wk E + 1) (wk E)), E)
def allS (E : It) (s : Int32) : Int32 × It := if ¬ (1 ≤ s ∧ s ≤ bitI (E 0 0) - 1) then (-2, E) else (alR E s 3601 0, E)
def listS (E : It) (w a : Int32) : Int32 × It := if w = -1 then (0, upI E 0 44 0) else if ¬ (0 ≤ w ∧ w ≤ 99) then (-2, E) else if ¬ isD E a then (-1, E) else if E 0 44 = 12 then (-4, E) else (E 0 44 + 1, upI (upI (upI E 23 (tN (E 0 44)) w) 24 (tN (E 0 44)) a) 0 44 (E 0 44 + 1))
def traceS (E : It) (a : Int32) : Int32 × It := if ¬ (0 ≤ a ∧ a ≤ 19) then (-1, E) else if E 0 67 ≤ a then (-1, E) else (E 35 (tN a), E)
def takenS (E : It) (a k : Int32) : Int32 × It := if ¬ (0 ≤ k ∧ k ≤ 6) then (-2, E) else if ¬ isD E a then (-11, E) else if k = 0 ∨ E 1 (tN a) = k ∨ (k = 1 ∧ E 1 (tN a) = 4) ∨ (k = 2 ∧ E 1 (tN a) = 5) ∨ (k = 3 ∧ E 1 (tN a) = 6) then (E 1 (tN a), E) else (-12, E)
def countS (E : It) (w : Int32) : Int32 × It := if w = 0 then (E 0 0, E) else if w = 1 then (E 0 15, E) else if w = 2 then (E 0 44, E) else if w = 3 then (E 0 17, E) else if w = 4 then (E 0 67, E) else if w = 5 then (onesI (E 0 5), E) else (-2, E)
theorem row_ix {E : It} (hE : Inv E) (h : ¬ E 0 44 = 12) : idx (E 0 44) (tN (E 0 44)) 12 := by
  obtain ⟨f, hf, e⟩ := hE.1.2.2.2.1
  rw [e] at h ⊢
  rw [tN_nI (by omega)]
  refine ⟨rfl, ?_, by decide⟩
  rcases Nat.lt_or_ge f 12 with z | z
  · exact z
  · exact absurd (by rw [show f = 12 by omega]; rfl) h
set_option maxRecDepth 8000 in
set_option maxHeartbeats 4000000 in
theorem c_X12_more {G : Gt} (hG : Gok G) {I : It} {h : Ht} (hM : HM h) {E : It} (hE : Inv E) (hR : RM E I) {L : Nat → Int64} (hl : hL h 38 = L) {y n : Int32} : Con G (9) 0 0 mX12_more [.ref 0, .int y, .int n] I h (qS (moreS E y n) L) := by
  refine con_intro (own := RX12) (lo0 := [some (.ref 0), some (.int y), some (.int n), none, none]) hG rfl pl_X12 (Nat.le_of_ble_eq_true rfl) rfl (fun X hX => ?_)
  refine g_aload_0 hX (dk DX12_more 0 rfl) ?_
  refine g_iload_1 hX (dk DX12_more 1 rfl) ?_
  refine g_c2I hX sX12_more_2 (by decide) (Nat.le_of_ble_eq_true rfl) (rc0 rfl (MLt hM (by decide)) (MC hM)) (by decide) (by decide) (c_X12_isWay hG hM) ?_
  refine g_ifb_ne (tgt := 12) hX (dk DX12_more 3 rfl) (by decide) (fun hc1 => ?_) (fun hc1 => ?_)
  · obtain ⟨y, hy, rfl⟩ := in_of (b := 3) (by decide) hc1
    refine g_aload_0 hX (dk DX12_more 6 rfl) ?_
    refine g_iload_2 hX (dk DX12_more 7 rfl) ?_
    refine g_iconst (v := 0) hX (dk DX12_more 8 rfl) (by decide) ?_
    refine g_bipush (v := 60) hX (dk DX12_more 9 rfl) (by decide) ?_
    refine g_c4I hX sX12_more_17 (by decide) (Nat.le_of_ble_eq_true rfl) (rc0 rfl (MLt hM (by decide)) (MC hM)) (by decide) (by decide) (c_X12_in hG ) ?_
    refine g_ifb_ne (tgt := 27) hX (dk DX12_more 11 rfl) (by decide) (fun hc2 => ?_) (fun hc2 => ?_)
    · obtain ⟨m, hm2, rfl⟩ := in_of (b := 60) (by decide) hc2
      refine g_aload_0 hX (dk DX12_more 14 rfl) ?_
      refine g_getRs (r := 8) hX (dk DX12_more 15 rfl) KX12 fX12_53 (by decide) rfl (MLt hM (by decide)) (MC hM) (MR hM 14 (by decide) rfl) ?_
      refine g_iload_1 hX (dk DX12_more 16 rfl) ?_
      refine v_iaload hX (dk DX12_more 17 rfl) (MLt hM (q := 8) (by decide)) (MS hM 8 (by decide) rfl) (⟨rfl, by omega, by decide⟩) (RM.c1 hR 8 _ (by decide) (by decide)) ?_
      refine g_bipush (v := 9) hX (dk DX12_more 18 rfl) (by decide) ?_
      refine g_icmp_ne (tgt := 40) hX (dk DX12_more 19 rfl) (by decide) (fun hc3 => ?_) (fun hc3 => ?_)
      · refine g_aload_0 hX (dk DX12_more 22 rfl) ?_
        refine g_c1v hX sX12_more_41 (by decide) (Nat.le_of_ble_eq_true rfl) (rc0 rfl (MLt hM (by decide)) (MC hM)) (by decide) (by decide) (c_X12_laySaid hG hM hE (Ag.of hR (by decide) (by decide))) ?_
        rintro J2 _ ⟨hS, hfr, rfl⟩
        have hR := RM.keep hR hfr (by decide) (by decide) (by decide)
        refine g_aload_0 hX (dk DX12_more 24 rfl) ?_
        refine g_iload_2 hX (dk DX12_more 25 rfl) ?_
        refine g_c2q hX sX12_more_46 (by decide) (Nat.le_of_ble_eq_true rfl) (rc0 rfl (MLt hM (by decide)) (MC hM)) (by decide) (by decide) (cE_costHanded hG hM hE (Ag.of hR (by decide) (by decide)) (by omega) hS (RM.c hR 8 (by decide) (by decide)) (RM.f hR 5 (by decide) (by decide)) (RM.f hR 6 (by decide) (by decide))) ?_
        rintro _ J3 _ ⟨rfl, hfr, rfl⟩
        have hS := hS.fr hfr (by decide)
        have hR := RM.keep hR hfr (by decide) (by decide) (by decide)
        refine g_istore_3 hX (dk DX12_more 27 rfl) (by decide) rfl ?_
        refine g_aload_0 hX (dk DX12_more 28 rfl) ?_
        refine g_getRs (r := 8) hX (dk DX12_more 29 rfl) KX12 fX12_53 (by decide) rfl (MLt hM (by decide)) (MC hM) (MR hM 14 (by decide) rfl) ?_
        refine g_iload_1 hX (dk DX12_more 30 rfl) ?_
        refine g_dup2 hX (dk DX12_more 31 rfl) rfl rfl ?_
        refine v_iaload hX (dk DX12_more 32 rfl) (MLt hM (q := 8) (by decide)) (MS hM 8 (by decide) rfl) (⟨rfl, by omega, by decide⟩) (RM.c1 hR 8 _ (by decide) (by decide)) ?_
        refine g_iconst (v := 1) hX (dk DX12_more 33 rfl) (by decide) ?_
        refine g_iadd hX (dk DX12_more 34 rfl) ?_
        refine i_iastore hX (dk DX12_more 35 rfl) (MLt hM (q := 8) (by decide)) (MS hM 8 (by decide) rfl) (⟨rfl, by omega, by decide⟩) ?_
        refine g_aload_0 hX (dk DX12_more 36 rfl) ?_
        refine g_iload_2 hX (dk DX12_more 37 rfl) ?_
        refine g_c2q hX sX12_more_62 (by decide) (Nat.le_of_ble_eq_true rfl) (rc0 rfl (MLt hM (by decide)) (MC hM)) (by decide) (by decide) (cE_costHanded hG hM hE (Ag.keep (Ag.of hR (by decide) (by decide)) (Fr.rf (F := []) (C := [8])).pcw (by decide) (by decide)) (by omega) (hS.fr (Fr.rf (F := []) (C := [8])).pcw (by decide)) (hr := upH (E 8) y) (by unfold upH; rw [upI_row, RM.c hR 8 (by decide) (by decide)]) (RM.f hR 5 (by decide) (by decide)) (RM.f hR 6 (by decide) (by decide))) ?_
        rintro _ J4 _ ⟨rfl, hfr, rfl⟩
        have h8 : J4 8 y = E 8 y + 1 := by rw [hfr.2 8 (by decide) (by decide), up0]
        refine g_istore_4 hX (dk DX12_more 39 rfl) (by decide) rfl ?_
        skip
        refine g_aload_0 hX (dk DX12_more 40 rfl) ?_
        refine g_getRs (r := 8) hX (dk DX12_more 41 rfl) KX12 fX12_53 (by decide) rfl (MLt hM (by decide)) (MC hM) (MR hM 14 (by decide) rfl) ?_
        refine g_iload_1 hX (dk DX12_more 42 rfl) ?_
        refine g_dup2 hX (dk DX12_more 43 rfl) rfl rfl ?_
        refine v_iaload hX (dk DX12_more 44 rfl) (MLt hM (q := 8) (by decide)) (MS hM 8 (by decide) rfl) (⟨rfl, by omega, by decide⟩) (h8) ?_
        refine g_iconst (v := 1) hX (dk DX12_more 45 rfl) (by decide) ?_
        refine g_isub hX (dk DX12_more 46 rfl) ?_
        refine i_iastore hX (dk DX12_more 47 rfl) (MLt hM (q := 8) (by decide)) (MS hM 8 (by decide) rfl) (⟨rfl, by omega, by decide⟩) ?_
        refine g_iload_3 hX (dk DX12_more 48 rfl) ?_
        refine g_iload_4 hX (dk DX12_more 49 rfl) ?_
        refine g_isub hX (dk DX12_more 50 rfl) ?_
        refine g_ireturn hX (dk DX12_more 51 rfl) rfl (rfl) (by decide) (by decide) ?_
        exact qS_of hM hl (by unfold moreS; rw [tN_nI (by omega), tN_nI (by omega)]; (try first | rw [if_pos hc1] | rw [if_neg hc1] | rw [if_neg (not_not_intro hc1)]); (try first | rw [if_pos hc2] | rw [if_neg hc2] | rw [if_neg (not_not_intro hc2)]); (try first | rw [if_pos hc3] | rw [if_neg hc3] | rw [if_neg (not_not_intro hc3)]); first | done | rfl) (RM_hour hR hfr (by decide) (Int32.add_sub_cancel _ _))
      · refine g_iconst (v := 0) hX (dk DX12_more 20 rfl) (by decide) ?_
        refine g_ireturn hX (dk DX12_more 21 rfl) rfl (rfl) (by decide) (by decide) ?_
        exact qS_of hM hl (by unfold moreS; (try rw [tN_nI (by omega)]); (try first | rw [if_pos hc1] | rw [if_neg hc1] | rw [if_neg (not_not_intro hc1)]); (try first | rw [if_pos hc2] | rw [if_neg hc2] | rw [if_neg (not_not_intro hc2)]); (try first | rw [if_pos hc3] | rw [if_neg hc3] | rw [if_neg (not_not_intro hc3)]); (try rw [tN_nI (by omega)]); first | done | rfl) hR
    · refine g_sipush (v := -10002) hX (dk DX12_more 12 rfl) (by decide) ?_
      refine g_ireturn hX (dk DX12_more 13 rfl) rfl (rfl) (by decide) (by decide) ?_
      exact qS_of hM hl (by unfold moreS; (try rw [tN_nI (by omega)]); (try first | rw [if_pos hc1] | rw [if_neg hc1] | rw [if_neg (not_not_intro hc1)]); (try first | rw [if_pos hc2] | rw [if_neg hc2] | rw [if_neg (not_not_intro hc2)]); (try rw [tN_nI (by omega)]); first | done | rfl) hR
  · refine g_sipush (v := -10001) hX (dk DX12_more 4 rfl) (by decide) ?_
    refine g_ireturn hX (dk DX12_more 5 rfl) rfl (rfl) (by decide) (by decide) ?_
    exact qS_of hM hl (by unfold moreS; (try rw [tN_nI (by omega)]); (try first | rw [if_pos hc1] | rw [if_neg hc1] | rw [if_neg (not_not_intro hc1)]); (try rw [tN_nI (by omega)]); first | done | rfl) hR

set_option maxRecDepth 8000 in
set_option maxHeartbeats 4000000 in
theorem c_X12_ask {G : Gt} (hG : Gok G) {I : It} {h : Ht} (hM : HM h) {E : It} (hE : Inv E) (hR : RM E I) {L : Nat → Int64} (hl : hL h 38 = L) {n : Int32} : Con G (8) 0 0 mX12_ask [.ref 0, .int n] I h (qS (askS E n) L) := by
  refine con_intro (own := RX12) (lo0 := [some (.ref 0), some (.int n), none, none, none, none]) hG rfl pl_X12 (Nat.le_of_ble_eq_true rfl) rfl (fun X hX => ?_)
  have loop22 : ∀ m, m ≤ 60 → n = nI m → ∀ (k i : Nat) (f l : Int32) (J : It), RM E J → i + k = cnt E → pickR E m (fun i => hasI (E 0 5) (nI i)) (fun i => costF E (withI (E 0 5) (nI i) 1) (E 0 6) m) k i f l = askF E m → GG G (8) 0 0 X (qS (askS E n) L) 22 [some (.ref 0), some (.int (nI m)), some (.int f), some (.int l), some (.int (nI i)), none] [] (J) (h) 0 0 := by
    intro m hm60 hn k
    subst hn
    have hin : 0 ≤ nI m ∧ nI m ≤ 60 := ⟨nI_pos' (by omega), (nI_leI (b := 60) (by omega) (by decide)).mpr hm60⟩
    induction k using Nat.strongRecOn with | _ k ih => ?_
    intro i f l J hR hk hv
    have hc10 := inv_cnt hE
    refine g_iload_4 hX (dk DX12_ask 14 rfl) ?_
    refine g_aload_0 hX (dk DX12_ask 15 rfl) ?_
    refine g_getIv hX (dk DX12_ask 16 rfl) KX12 fX12_7 (by decide) rfl (MLt hM (by decide)) (MC hM) ((RM.f hR 0 (by decide) (by decide)).trans hc10.1) ?_
    refine g_icmp_ge (tgt := 94) hX (dk DX12_ask 17 rfl) (by decide) (fun hc1 => ?_) (fun hc1 => ?_)
    · refine g_iload_2 hX (dk DX12_ask 49 rfl) ?_
      refine g_ireturn hX (dk DX12_ask 50 rfl) rfl (rfl) (by decide) (by decide) ?_
      have hk0 := cl_end hk (by omega) hc1
      subst hk0
      exact qS_of hM hl (by unfold askS; rw [if_neg (not_not_intro hin), tN_nI (by omega), ← hv]; rfl) hR
    · obtain ⟨k, rfl⟩ := cl_go hk (by omega) hc1
      refine g_aload_0 hX (dk DX12_ask 18 rfl) ?_
      refine g_aload_0 hX (dk DX12_ask 19 rfl) ?_
      refine g_getIv hX (dk DX12_ask 20 rfl) KX12 fX12_25 (by decide) rfl (MLt hM (by decide)) (MC hM) (RM.f hR 5 (by decide) (by decide)) ?_
      refine g_iload_4 hX (dk DX12_ask 21 rfl) ?_
      refine g_c3I hX sX12_ask_38 (by decide) (Nat.le_of_ble_eq_true rfl) (rc0 rfl (MLt hM (by decide)) (MC hM)) (by decide) (by decide) (c_X12_has hG ) ?_
      refine g_ifb_eq (tgt := 47) hX (dk DX12_ask 23 rfl) (by decide) (fun hc2 => ?_) (fun hc2 => ?_)
      · refine g_aload_0 hX (dk DX12_ask 25 rfl) ?_
        refine g_aload_0 hX (dk DX12_ask 26 rfl) ?_
        refine g_aload_0 hX (dk DX12_ask 27 rfl) ?_
        refine g_getIv hX (dk DX12_ask 28 rfl) KX12 fX12_25 (by decide) rfl (MLt hM (by decide)) (MC hM) (RM.f hR 5 (by decide) (by decide)) ?_
        refine g_iload_4 hX (dk DX12_ask 29 rfl) ?_
        refine g_iconst (v := 1) hX (dk DX12_ask 30 rfl) (by decide) ?_
        refine g_c4I hX sX12_ask_56 (by decide) (Nat.le_of_ble_eq_true rfl) (rc0 rfl (MLt hM (by decide)) (MC hM)) (by decide) (by decide) (c_X12_with hG ) ?_
        refine g_aload_0 hX (dk DX12_ask 32 rfl) ?_
        refine g_getIv hX (dk DX12_ask 33 rfl) KX12 fX12_28 (by decide) rfl (MLt hM (by decide)) (MC hM) (RM.f hR 6 (by decide) (by decide)) ?_
        refine g_iload_1 hX (dk DX12_ask 34 rfl) ?_
        refine g_c4q hX sX12_ask_64 (by decide) (Nat.le_of_ble_eq_true rfl) (rc0 rfl (MLt hM (by decide)) (MC hM)) (by decide) (by decide) (c_X12_costBy hG hM hE (Ag.of hR (by decide) (by decide)) (by omega)) ?_
        rintro _ J2 _ ⟨rfl, hfr, rfl⟩
        have hR := RM.keep hR hfr (by decide) (by decide) (by decide)
        refine g_istore_5 hX (dk DX12_ask 36 rfl) (by decide) rfl ?_
        refine g_iload_2 hX (dk DX12_ask 37 rfl) ?_
        refine g_if_lt (tgt := 82) hX (dk DX12_ask 38 rfl) (by decide) (fun hc3 => ?_) (fun hc3 => ?_)
        · refine g_iload_4 hX (dk DX12_ask 43 rfl) ?_
          refine g_istore_2 hX (dk DX12_ask 44 rfl) (by decide) rfl ?_
          refine g_iload_5 hX (dk DX12_ask 45 rfl) ?_
          refine g_istore_3 hX (dk DX12_ask 46 rfl) (by decide) rfl ?_
          refine g_iinc_4 hX (dk DX12_ask 47 rfl) (nI_1 i) (by decide) rfl ?_
          refine g_goto (tgt := 22) hX (dk DX12_ask 48 rfl) (by decide) ?_
          exact g_fgt (ih k (by omega) (i + 1) _ _ _ hR (by omega) (by rw [← hv, pickR_s]; (try first | rw [if_pos hc1] | rw [if_neg hc1] | rw [if_neg (not_not_intro hc1)]); (try first | rw [if_pos hc2] | rw [if_neg hc2] | rw [if_neg (not_not_intro hc2)]); (try first | rw [if_pos hc3] | rw [if_neg hc3] | rw [if_neg (not_not_intro hc3)]); first | done | rfl)) ⟨rfl, rfl, rfl, rfl, rfl, trivial⟩
        · refine g_iload_5 hX (dk DX12_ask 39 rfl) ?_
          refine g_iload_3 hX (dk DX12_ask 40 rfl) ?_
          refine g_icmp_lt (tgt := 82) hX (dk DX12_ask 41 rfl) (by decide) (fun hc4 => ?_) (fun hc4 => ?_)
          · refine g_iload_4 hX (dk DX12_ask 43 rfl) ?_
            refine g_istore_2 hX (dk DX12_ask 44 rfl) (by decide) rfl ?_
            refine g_iload_5 hX (dk DX12_ask 45 rfl) ?_
            refine g_istore_3 hX (dk DX12_ask 46 rfl) (by decide) rfl ?_
            refine g_iinc_4 hX (dk DX12_ask 47 rfl) (nI_1 i) (by decide) rfl ?_
            refine g_goto (tgt := 22) hX (dk DX12_ask 48 rfl) (by decide) ?_
            exact g_fgt (ih k (by omega) (i + 1) _ _ _ hR (by omega) (by rw [← hv, pickR_s]; (try first | rw [if_pos hc1] | rw [if_neg hc1] | rw [if_neg (not_not_intro hc1)]); (try first | rw [if_pos hc2] | rw [if_neg hc2] | rw [if_neg (not_not_intro hc2)]); (try first | rw [if_pos hc3] | rw [if_neg hc3] | rw [if_neg (not_not_intro hc3)]); (try first | rw [if_pos hc4] | rw [if_neg hc4] | rw [if_neg (not_not_intro hc4)]); first | done | rfl)) ⟨rfl, rfl, rfl, rfl, rfl, trivial⟩
          · refine g_goto (tgt := 88) hX (dk DX12_ask 42 rfl) (by decide) ?_
            refine g_iinc_4 hX (dk DX12_ask 47 rfl) (nI_1 i) (by decide) rfl ?_
            refine g_goto (tgt := 22) hX (dk DX12_ask 48 rfl) (by decide) ?_
            exact g_fgt (ih k (by omega) (i + 1) _ _ _ hR (by omega) (by rw [← hv, pickR_s]; (try first | rw [if_pos hc1] | rw [if_neg hc1] | rw [if_neg (not_not_intro hc1)]); (try first | rw [if_pos hc2] | rw [if_neg hc2] | rw [if_neg (not_not_intro hc2)]); (try first | rw [if_pos hc3] | rw [if_neg hc3] | rw [if_neg (not_not_intro hc3)]); (try first | rw [if_pos hc4] | rw [if_neg hc4] | rw [if_neg (not_not_intro hc4)]); first | done | rfl)) ⟨rfl, rfl, rfl, rfl, rfl, trivial⟩
      · refine g_goto (tgt := 88) hX (dk DX12_ask 24 rfl) (by decide) ?_
        refine g_iinc_4 hX (dk DX12_ask 47 rfl) (nI_1 i) (by decide) rfl ?_
        refine g_goto (tgt := 22) hX (dk DX12_ask 48 rfl) (by decide) ?_
        exact g_fgt (ih k (by omega) (i + 1) _ _ _ hR (by omega) (by rw [← hv, pickR_s]; (try first | rw [if_pos hc1] | rw [if_neg hc1] | rw [if_neg (not_not_intro hc1)]); (try first | rw [if_pos hc2] | rw [if_neg hc2] | rw [if_neg (not_not_intro hc2)]); first | done | rfl)) ⟨rfl, rfl, rfl, rfl, rfl, trivial⟩
  refine g_aload_0 hX (dk DX12_ask 0 rfl) ?_
  refine g_iload_1 hX (dk DX12_ask 1 rfl) ?_
  refine g_iconst (v := 0) hX (dk DX12_ask 2 rfl) (by decide) ?_
  refine g_bipush (v := 60) hX (dk DX12_ask 3 rfl) (by decide) ?_
  refine g_c4I hX sX12_ask_5 (by decide) (Nat.le_of_ble_eq_true rfl) (rc0 rfl (MLt hM (by decide)) (MC hM)) (by decide) (by decide) (c_X12_in hG ) ?_
  refine g_ifb_ne (tgt := 14) hX (dk DX12_ask 5 rfl) (by decide) (fun hc1 => ?_) (fun hc1 => ?_)
  · obtain ⟨m, hm2, rfl⟩ := in_of (b := 60) (by decide) hc1
    refine g_bipush (v := -5) hX (dk DX12_ask 8 rfl) (by decide) ?_
    refine g_istore_2 hX (dk DX12_ask 9 rfl) (by decide) rfl ?_
    refine g_iconst (v := 0) hX (dk DX12_ask 10 rfl) (by decide) ?_
    refine g_istore_3 hX (dk DX12_ask 11 rfl) (by decide) rfl ?_
    refine g_iconst (v := 0) hX (dk DX12_ask 12 rfl) (by decide) ?_
    refine g_istore_4 hX (dk DX12_ask 13 rfl) (by decide) rfl ?_
    exact loop22 m hm2 rfl (cnt E) 0 (-5) 0 I hR (Nat.zero_add _) rfl
  · refine g_bipush (v := -2) hX (dk DX12_ask 6 rfl) (by decide) ?_
    refine g_ireturn hX (dk DX12_ask 7 rfl) rfl (rfl) (by decide) (by decide) ?_
    exact qS_of hM hl (by unfold askS; (try first | rw [if_pos hc1] | rw [if_neg hc1] | rw [if_neg (not_not_intro hc1)]); first | done | rfl) hR

set_option maxRecDepth 8000 in
set_option maxHeartbeats 4000000 in
theorem c_X12_drop {G : Gt} (hG : Gok G) {I : It} {h : Ht} (hM : HM h) {E : It} (hE : Inv E) (hR : RM E I) {L : Nat → Int64} (hl : hL h 38 = L) {n : Int32} : Con G (8) 0 0 mX12_drop [.ref 0, .int n] I h (qS (dropS E n) L) := by
  refine con_intro (own := RX12) (lo0 := [some (.ref 0), some (.int n), none, none, none, none]) hG rfl pl_X12 (Nat.le_of_ble_eq_true rfl) rfl (fun X hX => ?_)
  have loop22 : ∀ m, m ≤ 60 → n = nI m → ∀ (k i : Nat) (f l : Int32) (J : It), RM E J → i + k = cnt E → pickR E m (fun i => hasI (E 0 6) (nI i)) (fun i => costF E (E 0 5) (withI (E 0 6) (nI i) 1) m) k i f l = dropF E m → GG G (8) 0 0 X (qS (dropS E n) L) 22 [some (.ref 0), some (.int (nI m)), some (.int f), some (.int l), some (.int (nI i)), none] [] (J) (h) 0 0 := by
    intro m hm60 hn k
    subst hn
    have hin : 0 ≤ nI m ∧ nI m ≤ 60 := ⟨nI_pos' (by omega), (nI_leI (b := 60) (by omega) (by decide)).mpr hm60⟩
    induction k using Nat.strongRecOn with | _ k ih => ?_
    intro i f l J hR hk hv
    have hc10 := inv_cnt hE
    refine g_iload_4 hX (dk DX12_drop 14 rfl) ?_
    refine g_aload_0 hX (dk DX12_drop 15 rfl) ?_
    refine g_getIv hX (dk DX12_drop 16 rfl) KX12 fX12_7 (by decide) rfl (MLt hM (by decide)) (MC hM) ((RM.f hR 0 (by decide) (by decide)).trans hc10.1) ?_
    refine g_icmp_ge (tgt := 94) hX (dk DX12_drop 17 rfl) (by decide) (fun hc1 => ?_) (fun hc1 => ?_)
    · refine g_iload_2 hX (dk DX12_drop 49 rfl) ?_
      refine g_ireturn hX (dk DX12_drop 50 rfl) rfl (rfl) (by decide) (by decide) ?_
      have hk0 := cl_end hk (by omega) hc1
      subst hk0
      exact qS_of hM hl (by unfold dropS; rw [if_neg (not_not_intro hin), tN_nI (by omega), ← hv]; rfl) hR
    · obtain ⟨k, rfl⟩ := cl_go hk (by omega) hc1
      refine g_aload_0 hX (dk DX12_drop 18 rfl) ?_
      refine g_aload_0 hX (dk DX12_drop 19 rfl) ?_
      refine g_getIv hX (dk DX12_drop 20 rfl) KX12 fX12_28 (by decide) rfl (MLt hM (by decide)) (MC hM) (RM.f hR 6 (by decide) (by decide)) ?_
      refine g_iload_4 hX (dk DX12_drop 21 rfl) ?_
      refine g_c3I hX sX12_drop_38 (by decide) (Nat.le_of_ble_eq_true rfl) (rc0 rfl (MLt hM (by decide)) (MC hM)) (by decide) (by decide) (c_X12_has hG ) ?_
      refine g_ifb_eq (tgt := 47) hX (dk DX12_drop 23 rfl) (by decide) (fun hc2 => ?_) (fun hc2 => ?_)
      · refine g_aload_0 hX (dk DX12_drop 25 rfl) ?_
        refine g_aload_0 hX (dk DX12_drop 26 rfl) ?_
        refine g_getIv hX (dk DX12_drop 27 rfl) KX12 fX12_25 (by decide) rfl (MLt hM (by decide)) (MC hM) (RM.f hR 5 (by decide) (by decide)) ?_
        refine g_aload_0 hX (dk DX12_drop 28 rfl) ?_
        refine g_aload_0 hX (dk DX12_drop 29 rfl) ?_
        refine g_getIv hX (dk DX12_drop 30 rfl) KX12 fX12_28 (by decide) rfl (MLt hM (by decide)) (MC hM) (RM.f hR 6 (by decide) (by decide)) ?_
        refine g_iload_4 hX (dk DX12_drop 31 rfl) ?_
        refine g_iconst (v := 1) hX (dk DX12_drop 32 rfl) (by decide) ?_
        refine g_c4I hX sX12_drop_60 (by decide) (Nat.le_of_ble_eq_true rfl) (rc0 rfl (MLt hM (by decide)) (MC hM)) (by decide) (by decide) (c_X12_with hG ) ?_
        refine g_iload_1 hX (dk DX12_drop 34 rfl) ?_
        refine g_c4q hX sX12_drop_64 (by decide) (Nat.le_of_ble_eq_true rfl) (rc0 rfl (MLt hM (by decide)) (MC hM)) (by decide) (by decide) (c_X12_costBy hG hM hE (Ag.of hR (by decide) (by decide)) (by omega)) ?_
        rintro _ J2 _ ⟨rfl, hfr, rfl⟩
        have hR := RM.keep hR hfr (by decide) (by decide) (by decide)
        refine g_istore_5 hX (dk DX12_drop 36 rfl) (by decide) rfl ?_
        refine g_iload_2 hX (dk DX12_drop 37 rfl) ?_
        refine g_if_lt (tgt := 82) hX (dk DX12_drop 38 rfl) (by decide) (fun hc3 => ?_) (fun hc3 => ?_)
        · refine g_iload_4 hX (dk DX12_drop 43 rfl) ?_
          refine g_istore_2 hX (dk DX12_drop 44 rfl) (by decide) rfl ?_
          refine g_iload_5 hX (dk DX12_drop 45 rfl) ?_
          refine g_istore_3 hX (dk DX12_drop 46 rfl) (by decide) rfl ?_
          refine g_iinc_4 hX (dk DX12_drop 47 rfl) (nI_1 i) (by decide) rfl ?_
          refine g_goto (tgt := 22) hX (dk DX12_drop 48 rfl) (by decide) ?_
          exact g_fgt (ih k (by omega) (i + 1) _ _ _ hR (by omega) (by rw [← hv, pickR_s]; (try first | rw [if_pos hc1] | rw [if_neg hc1] | rw [if_neg (not_not_intro hc1)]); (try first | rw [if_pos hc2] | rw [if_neg hc2] | rw [if_neg (not_not_intro hc2)]); (try first | rw [if_pos hc3] | rw [if_neg hc3] | rw [if_neg (not_not_intro hc3)]); first | done | rfl)) ⟨rfl, rfl, rfl, rfl, rfl, trivial⟩
        · refine g_iload_5 hX (dk DX12_drop 39 rfl) ?_
          refine g_iload_3 hX (dk DX12_drop 40 rfl) ?_
          refine g_icmp_lt (tgt := 82) hX (dk DX12_drop 41 rfl) (by decide) (fun hc4 => ?_) (fun hc4 => ?_)
          · refine g_iload_4 hX (dk DX12_drop 43 rfl) ?_
            refine g_istore_2 hX (dk DX12_drop 44 rfl) (by decide) rfl ?_
            refine g_iload_5 hX (dk DX12_drop 45 rfl) ?_
            refine g_istore_3 hX (dk DX12_drop 46 rfl) (by decide) rfl ?_
            refine g_iinc_4 hX (dk DX12_drop 47 rfl) (nI_1 i) (by decide) rfl ?_
            refine g_goto (tgt := 22) hX (dk DX12_drop 48 rfl) (by decide) ?_
            exact g_fgt (ih k (by omega) (i + 1) _ _ _ hR (by omega) (by rw [← hv, pickR_s]; (try first | rw [if_pos hc1] | rw [if_neg hc1] | rw [if_neg (not_not_intro hc1)]); (try first | rw [if_pos hc2] | rw [if_neg hc2] | rw [if_neg (not_not_intro hc2)]); (try first | rw [if_pos hc3] | rw [if_neg hc3] | rw [if_neg (not_not_intro hc3)]); (try first | rw [if_pos hc4] | rw [if_neg hc4] | rw [if_neg (not_not_intro hc4)]); first | done | rfl)) ⟨rfl, rfl, rfl, rfl, rfl, trivial⟩
          · refine g_goto (tgt := 88) hX (dk DX12_drop 42 rfl) (by decide) ?_
            refine g_iinc_4 hX (dk DX12_drop 47 rfl) (nI_1 i) (by decide) rfl ?_
            refine g_goto (tgt := 22) hX (dk DX12_drop 48 rfl) (by decide) ?_
            exact g_fgt (ih k (by omega) (i + 1) _ _ _ hR (by omega) (by rw [← hv, pickR_s]; (try first | rw [if_pos hc1] | rw [if_neg hc1] | rw [if_neg (not_not_intro hc1)]); (try first | rw [if_pos hc2] | rw [if_neg hc2] | rw [if_neg (not_not_intro hc2)]); (try first | rw [if_pos hc3] | rw [if_neg hc3] | rw [if_neg (not_not_intro hc3)]); (try first | rw [if_pos hc4] | rw [if_neg hc4] | rw [if_neg (not_not_intro hc4)]); first | done | rfl)) ⟨rfl, rfl, rfl, rfl, rfl, trivial⟩
      · refine g_goto (tgt := 88) hX (dk DX12_drop 24 rfl) (by decide) ?_
        refine g_iinc_4 hX (dk DX12_drop 47 rfl) (nI_1 i) (by decide) rfl ?_
        refine g_goto (tgt := 22) hX (dk DX12_drop 48 rfl) (by decide) ?_
        exact g_fgt (ih k (by omega) (i + 1) _ _ _ hR (by omega) (by rw [← hv, pickR_s]; (try first | rw [if_pos hc1] | rw [if_neg hc1] | rw [if_neg (not_not_intro hc1)]); (try first | rw [if_pos hc2] | rw [if_neg hc2] | rw [if_neg (not_not_intro hc2)]); first | done | rfl)) ⟨rfl, rfl, rfl, rfl, rfl, trivial⟩
  refine g_aload_0 hX (dk DX12_drop 0 rfl) ?_
  refine g_iload_1 hX (dk DX12_drop 1 rfl) ?_
  refine g_iconst (v := 0) hX (dk DX12_drop 2 rfl) (by decide) ?_
  refine g_bipush (v := 60) hX (dk DX12_drop 3 rfl) (by decide) ?_
  refine g_c4I hX sX12_drop_5 (by decide) (Nat.le_of_ble_eq_true rfl) (rc0 rfl (MLt hM (by decide)) (MC hM)) (by decide) (by decide) (c_X12_in hG ) ?_
  refine g_ifb_ne (tgt := 14) hX (dk DX12_drop 5 rfl) (by decide) (fun hc1 => ?_) (fun hc1 => ?_)
  · obtain ⟨m, hm2, rfl⟩ := in_of (b := 60) (by decide) hc1
    refine g_bipush (v := -5) hX (dk DX12_drop 8 rfl) (by decide) ?_
    refine g_istore_2 hX (dk DX12_drop 9 rfl) (by decide) rfl ?_
    refine g_iconst (v := 0) hX (dk DX12_drop 10 rfl) (by decide) ?_
    refine g_istore_3 hX (dk DX12_drop 11 rfl) (by decide) rfl ?_
    refine g_iconst (v := 0) hX (dk DX12_drop 12 rfl) (by decide) ?_
    refine g_istore_4 hX (dk DX12_drop 13 rfl) (by decide) rfl ?_
    exact loop22 m hm2 rfl (cnt E) 0 (-5) 0 I hR (Nat.zero_add _) rfl
  · refine g_bipush (v := -2) hX (dk DX12_drop 6 rfl) (by decide) ?_
    refine g_ireturn hX (dk DX12_drop 7 rfl) rfl (rfl) (by decide) (by decide) ?_
    exact qS_of hM hl (by unfold dropS; (try first | rw [if_pos hc1] | rw [if_neg hc1] | rw [if_neg (not_not_intro hc1)]); first | done | rfl) hR

set_option maxRecDepth 8000 in
set_option maxHeartbeats 4000000 in
theorem c_X12_when {G : Gt} (hG : Gok G) {I : It} {h : Ht} (hM : HM h) {E : It} (hE : Inv E) (hR : RM E I) {L : Nat → Int64} (hl : hL h 38 = L) {a : Int32} : Con G (3) 0 0 mX12_when [.ref 0, .int a] I h (qS (whenS E a) L) := by
  refine con_intro (own := RX12) (lo0 := [some (.ref 0), some (.int a), none]) hG rfl pl_X12 (Nat.le_of_ble_eq_true rfl) rfl (fun X hX => ?_)
  have loop15 : ∀ d, d < cnt E → a = nI d → ∀ (k i z : Nat), i + k = 60 → i ≤ z → z < 60 → remI (nI (wk E + z)) (E 3 d) = E 4 d → whR E d k (wk E + i) = whR E d 60 (wk E) → GG G (3) 0 0 X (qS (whenS E a) L) 15 [some (.ref 0), some (.int (nI d)), some (.int (nI (wk E + i)))] [] (I) (h) 0 0 := by
    intro d hd ha k
    subst ha
    induction k using Nat.strongRecOn with | _ k ih => ?_
    intro i z hk hz1 hz2 hz hv
    obtain ⟨k, rfl⟩ : ∃ q, k = q + 1 := ⟨k - 1, by omega⟩
    refine g_aload_0 hX (dk DX12_when 9 rfl) ?_
    refine g_iload_1 hX (dk DX12_when 10 rfl) ?_
    refine g_iload_2 hX (dk DX12_when 11 rfl) ?_
    refine g_c3I hX sX12_when_18 (by decide) (Nat.le_of_ble_eq_true rfl) (rc0 rfl (MLt hM (by decide)) (MC hM)) (by decide) (by decide) (c_X12_comes hG hM hE (Ag.of hR (by decide) (by decide)) hd) ?_
    refine g_ifb_ne (tgt := 30) hX (dk DX12_when 13 rfl) (by decide) (fun hc1 => ?_) (fun hc1 => ?_)
    · have hst : whR E d (k + 1) (wk E + i) = wk E + i := by rw [whR_s, if_pos hc1]
      refine g_iload_2 hX (dk DX12_when 16 rfl) ?_
      refine g_ireturn hX (dk DX12_when 17 rfl) rfl (rfl) (by decide) (by decide) ?_
      exact qS_of hM hl (by unfold whenS; rw [if_neg (not_not_intro (isD_mk hE hd)), tN_nI (by have := (inv_cnt hE).2; omega), ← hv, hst]) hR
    · have hne : i ≠ z := fun e => hc1 (by rw [e]; exact hz)
      have hst : whR E d (k + 1) (wk E + i) = whR E d k (wk E + (i + 1)) := by rw [whR_s, if_neg hc1]; rfl
      refine g_iinc_2 hX (dk DX12_when 14 rfl) (nI_1 (wk E + i)) (by decide) rfl ?_
      refine g_goto (tgt := 15) hX (dk DX12_when 15 rfl) (by decide) ?_
      exact ih k (by omega) (i + 1) z (by omega) (by omega) hz2 hz (by rw [← hv, hst])
  refine g_aload_0 hX (dk DX12_when 0 rfl) ?_
  refine g_iload_1 hX (dk DX12_when 1 rfl) ?_
  refine g_c2I hX sX12_when_2 (by decide) (Nat.le_of_ble_eq_true rfl) (rc0 rfl (MLt hM (by decide)) (MC hM)) (by decide) (by decide) (cE_isDoing hG hM (RM.f hR 0 (by decide) (by decide))) ?_
  refine g_ifb_ne (tgt := 10) hX (dk DX12_when 3 rfl) (by decide) (fun hc1 => ?_) (fun hc1 => ?_)
  · obtain ⟨d, hd, rfl⟩ := isD_of hE hc1
    have hd10 := Nat.lt_of_lt_of_le hd (inv_cnt hE).2
    refine g_aload_0 hX (dk DX12_when 6 rfl) ?_
    refine g_getIv hX (dk DX12_when 7 rfl) KX12 fX12_13 (by decide) rfl (MLt hM (by decide)) (MC hM) ((RM.f hR 1 (by decide) (by decide)).trans (inv_wk hE).1) ?_
    refine g_istore_2 hX (dk DX12_when 8 rfl) (by decide) rfl ?_
    obtain ⟨z, hz, ez⟩ := wh_hit hE hd
    exact loop15 d hd rfl 60 0 z (Nat.zero_add _) (Nat.zero_le _) hz ez rfl
  · refine g_iconst (v := -1) hX (dk DX12_when 4 rfl) (by decide) ?_
    refine g_ireturn hX (dk DX12_when 5 rfl) rfl (rfl) (by decide) (by decide) ?_
    exact qS_of hM hl (by unfold whenS; (try first | rw [if_pos hc1] | rw [if_neg hc1] | rw [if_neg (not_not_intro hc1)]); first | done | rfl) hR

set_option maxRecDepth 8000 in
set_option maxHeartbeats 4000000 in
theorem c_X12_busiest {G : Gt} (hG : Gok G) {I : It} {h : Ht} (hM : HM h) {E : It} (hE : Inv E) (hR : RM E I) {L : Nat → Int64} (hl : hL h 38 = L) {n v : Int32} : Con G (3) 0 0 mX12_busiest [.ref 0, .int n, .int v] I h (qS (busiestS E n v) L) := by
  refine con_intro (own := RX12) (lo0 := [some (.ref 0), some (.int n), some (.int v), none, none]) hG rfl pl_X12 (Nat.le_of_ble_eq_true rfl) rfl (fun X hX => ?_)
  have loop40 : (0 ≤ v ∧ v ≤ 1) → ∀ m, 1 ≤ m → m ≤ 200 → n = nI m → ∀ (k w f : Nat), w + k = wk E + m → f ≤ wk E + m → bsR E k w f = bsR E (m - 1) (wk E + 1) (wk E) → GG G (3) 0 0 X (qS (busiestS E n v) L) 40 [some (.ref 0), some (.int (nI m)), some (.int v), some (.int (nI f)), some (.int (nI w))] [] (I) (h) 0 0 := by
    intro hv01 m hm1 hm2 hn k
    subst hn
    have hin : 1 ≤ nI m ∧ nI m ≤ 200 := ⟨(nI_leI (a := 1) (by decide) (by omega)).mpr hm1, (nI_leI (b := 200) (by omega) (by decide)).mpr hm2⟩
    have hw := inv_wk hE
    induction k using Nat.strongRecOn with | _ k ih => ?_
    intro w f hk hf hv
    refine g_iload_4 hX (dk DX12_busiest 24 rfl) ?_
    refine g_aload_0 hX (dk DX12_busiest 25 rfl) ?_
    refine g_getIv hX (dk DX12_busiest 26 rfl) KX12 fX12_13 (by decide) rfl (MLt hM (by decide)) (MC hM) ((RM.f hR 1 (by decide) (by decide)).trans hw.1) ?_
    refine g_iload_1 hX (dk DX12_busiest 27 rfl) ?_
    refine g_iadd hX (dk DX12_busiest 28 rfl) ?_
    refine g_icmp_ge (tgt := 78) hX (dk DX12_busiest 29 rfl) (by decide) (fun hc1 => ?_) (fun hc1 => ?_)
    · refine g_iload_2 hX (dk DX12_busiest 43 rfl) ?_
      refine g_if_ne (tgt := 86) hX (dk DX12_busiest 44 rfl) (by decide) (fun hc2 => ?_) (fun hc2 => ?_)
      · refine g_aload_0 hX (dk DX12_busiest 47 rfl) ?_
        refine g_iload_3 hX (dk DX12_busiest 48 rfl) ?_
        refine g_c2I hX sX12_busiest_88 (by decide) (Nat.le_of_ble_eq_true rfl) (rc0 rfl (MLt hM (by decide)) (MC hM)) (by decide) (by decide) (c_X12_manyIn hG hM hE (Ag.of hR (by decide) (by decide))) ?_
        refine g_ireturn hX (dk DX12_busiest 50 rfl) rfl (rfl) (by decide) (by decide) ?_
        rw [nI_add] at hc1
        have hk0 := ct_end hk (by omega) hc1
        subst hk0
        exact qS_of hM hl (by unfold busiestS; rw [if_neg (not_not_intro hv01), if_neg (not_not_intro hin), tN_nI (by omega), ← hv]; (try first | rw [if_pos hc1] | rw [if_neg hc1] | rw [if_neg (not_not_intro hc1)]); (try first | rw [if_pos hc2] | rw [if_neg hc2] | rw [if_neg (not_not_intro hc2)]); first | done | rfl) hR
      · refine g_iload_3 hX (dk DX12_busiest 45 rfl) ?_
        refine g_goto (tgt := 91) hX (dk DX12_busiest 46 rfl) (by decide) ?_
        refine g_ireturn hX (dk DX12_busiest 50 rfl) rfl (rfl) (by decide) (by decide) ?_
        rw [nI_add] at hc1
        have hk0 := ct_end hk (by omega) hc1
        subst hk0
        exact qS_of hM hl (by unfold busiestS; rw [if_neg (not_not_intro hv01), if_neg (not_not_intro hin), tN_nI (by omega), ← hv]; (try first | rw [if_pos hc1] | rw [if_neg hc1] | rw [if_neg (not_not_intro hc1)]); (try first | rw [if_pos hc2] | rw [if_neg hc2] | rw [if_neg (not_not_intro hc2)]); first | done | rfl) hR
    · rw [nI_add] at hc1
      obtain ⟨k, rfl⟩ := ct_go hk (by omega) hc1
      refine g_aload_0 hX (dk DX12_busiest 30 rfl) ?_
      refine g_iload_4 hX (dk DX12_busiest 31 rfl) ?_
      refine g_c2I hX sX12_busiest_54 (by decide) (Nat.le_of_ble_eq_true rfl) (rc0 rfl (MLt hM (by decide)) (MC hM)) (by decide) (by decide) (c_X12_manyIn hG hM hE (Ag.of hR (by decide) (by decide))) ?_
      refine g_aload_0 hX (dk DX12_busiest 33 rfl) ?_
      refine g_iload_3 hX (dk DX12_busiest 34 rfl) ?_
      refine g_c2I hX sX12_busiest_59 (by decide) (Nat.le_of_ble_eq_true rfl) (rc0 rfl (MLt hM (by decide)) (MC hM)) (by decide) (by decide) (c_X12_manyIn hG hM hE (Ag.of hR (by decide) (by decide))) ?_
      refine g_icmp_le (tgt := 70) hX (dk DX12_busiest 36 rfl) (by decide) (fun hc3 => ?_) (fun hc3 => ?_)
      · have hst : (if manyF E w ≤ manyF E f then f else w) = f := if_pos hc3
        refine g_iload_3 hX (dk DX12_busiest 39 rfl) ?_
        refine g_istore_3 hX (dk DX12_busiest 40 rfl) (by decide) rfl ?_
        refine g_iinc_4 hX (dk DX12_busiest 41 rfl) (nI_1 w) (by decide) rfl ?_
        refine g_goto (tgt := 40) hX (dk DX12_busiest 42 rfl) (by decide) ?_
        exact ih k (by omega) (w + 1) _ (by omega) (by omega) (by rw [← hv, bsR_s, hst])
      · have hst : (if manyF E w ≤ manyF E f then f else w) = w := if_neg hc3
        refine g_iload_4 hX (dk DX12_busiest 37 rfl) ?_
        refine g_goto (tgt := 71) hX (dk DX12_busiest 38 rfl) (by decide) ?_
        refine g_istore_3 hX (dk DX12_busiest 40 rfl) (by decide) rfl ?_
        refine g_iinc_4 hX (dk DX12_busiest 41 rfl) (nI_1 w) (by decide) rfl ?_
        refine g_goto (tgt := 40) hX (dk DX12_busiest 42 rfl) (by decide) ?_
        exact ih k (by omega) (w + 1) _ (by omega) (by omega) (by rw [← hv, bsR_s, hst])
  refine g_aload_0 hX (dk DX12_busiest 0 rfl) ?_
  refine g_iload_2 hX (dk DX12_busiest 1 rfl) ?_
  refine g_iconst (v := 0) hX (dk DX12_busiest 2 rfl) (by decide) ?_
  refine g_iconst (v := 1) hX (dk DX12_busiest 3 rfl) (by decide) ?_
  refine g_c4I hX sX12_busiest_4 (by decide) (Nat.le_of_ble_eq_true rfl) (rc0 rfl (MLt hM (by decide)) (MC hM)) (by decide) (by decide) (c_X12_in hG ) ?_
  refine g_ifb_ne (tgt := 12) hX (dk DX12_busiest 5 rfl) (by decide) (fun hc1 => ?_) (fun hc1 => ?_)
  · refine g_aload_0 hX (dk DX12_busiest 8 rfl) ?_
    refine g_iload_1 hX (dk DX12_busiest 9 rfl) ?_
    refine g_iconst (v := 1) hX (dk DX12_busiest 10 rfl) (by decide) ?_
    refine g_sipush (v := 200) hX (dk DX12_busiest 11 rfl) (by decide) ?_
    refine g_c4I hX sX12_busiest_18 (by decide) (Nat.le_of_ble_eq_true rfl) (rc0 rfl (MLt hM (by decide)) (MC hM)) (by decide) (by decide) (c_X12_in hG ) ?_
    refine g_ifb_ne (tgt := 27) hX (dk DX12_busiest 13 rfl) (by decide) (fun hc2 => ?_) (fun hc2 => ?_)
    · obtain ⟨m, hm1, hm2, rfl⟩ := in1_of (c := 1) (b := 200) (by decide) (by decide) hc2
      have hw := inv_wk hE
      have hvv := hc1
      refine g_aload_0 hX (dk DX12_busiest 16 rfl) ?_
      refine g_getIv hX (dk DX12_busiest 17 rfl) KX12 fX12_13 (by decide) rfl (MLt hM (by decide)) (MC hM) ((RM.f hR 1 (by decide) (by decide)).trans (inv_wk hE).1) ?_
      refine g_istore_3 hX (dk DX12_busiest 18 rfl) (by decide) rfl ?_
      refine g_aload_0 hX (dk DX12_busiest 19 rfl) ?_
      refine g_getIv hX (dk DX12_busiest 20 rfl) KX12 fX12_13 (by decide) rfl (MLt hM (by decide)) (MC hM) ((RM.f hR 1 (by decide) (by decide)).trans (inv_wk hE).1) ?_
      refine g_iconst (v := 1) hX (dk DX12_busiest 21 rfl) (by decide) ?_
      refine g_iadd hX (dk DX12_busiest 22 rfl) ?_
      rw [show (1 : Int32) = nI 1 from rfl, nI_add]
      refine g_istore_4 hX (dk DX12_busiest 23 rfl) (by decide) rfl ?_
      exact loop40 hvv m hm1 hm2 rfl (m - 1) (wk E + 1) (wk E) (by omega) (by omega) rfl
    · refine g_bipush (v := -2) hX (dk DX12_busiest 14 rfl) (by decide) ?_
      refine g_ireturn hX (dk DX12_busiest 15 rfl) rfl (rfl) (by decide) (by decide) ?_
      exact qS_of hM hl (by unfold busiestS; (try first | rw [if_pos hc1] | rw [if_neg hc1] | rw [if_neg (not_not_intro hc1)]); (try first | rw [if_pos hc2] | rw [if_neg hc2] | rw [if_neg (not_not_intro hc2)]); first | done | rfl) hR
  · refine g_iconst (v := -1) hX (dk DX12_busiest 6 rfl) (by decide) ?_
    refine g_ireturn hX (dk DX12_busiest 7 rfl) rfl (rfl) (by decide) (by decide) ?_
    exact qS_of hM hl (by unfold busiestS; (try first | rw [if_pos hc1] | rw [if_neg hc1] | rw [if_neg (not_not_intro hc1)]); first | done | rfl) hR

