set_option maxRecDepth 8000 in
set_option maxHeartbeats 4000000 in
theorem q_takesE {G : Gt} (hG : Gok G) {I : It} {h : Ht} (hM : HM h) {p c fr : Nat} {tx : Nat → Int32} {n a : Nat} (hp : p < 6) (hc : c < 60) (hT : TX tx n I) (hA : AT n a I) (h28 : I 0 28 = nI fr) (h1 : 100 * p ≤ fr) (h2 : fr ≤ 100 * p + a)  : Con G (6) 0 0 mX12_takesE [.ref 0, .int (nI c)] I h (qI (fun v J h2 => h2 = h ∧ v = bI ((amR tx n 101 true a [] []).1 = true) ∧ FrE p c fr (teI I c (nI fr)) J ∧ TX tx n J ∧ AT n (amR tx n 101 true a [] []).2.1 J ∧ ((amR tx n 101 true a [] []).1 = true → J 14 c = nI (fr + (amR tx n 101 true a [] []).2.2.length) ∧ CD fr J (amR tx n 101 true a [] []).2.2 ∧ J 0 28 = nI (fr + (amR tx n 101 true a [] []).2.2.length) ∧ fr + (amR tx n 101 true a [] []).2.2.length ≤ 100 * p + (amR tx n 101 true a [] []).2.1))) := by
  refine con_intro (own := RX12) (lo0 := [some (.ref 0), some (.int (nI c)), none, none]) hG rfl pl_X12 (Nat.le_of_ble_eq_true rfl) rfl (fun X hX => ?_)
  have hn100 := hT.2.1
  have han := hA.2
  have loop22 : ∀ (f : Nat) (w : Bool) (a2 : Nat) (cs ws : List Int32) (J : It), n + 1 ≤ f + a2 → okW ws → MZ p c fr tx n (teI I c (nI fr)) J a2 cs ws → amR tx n f w a2 cs ws = (amR tx n 101 true a [] []) → GG G (6) 0 0 X (qI (fun v J h2 => h2 = h ∧ v = bI ((amR tx n 101 true a [] []).1 = true) ∧ FrE p c fr (teI I c (nI fr)) J ∧ TX tx n J ∧ AT n (amR tx n 101 true a [] []).2.1 J ∧ ((amR tx n 101 true a [] []).1 = true → J 14 c = nI (fr + (amR tx n 101 true a [] []).2.2.length) ∧ CD fr J (amR tx n 101 true a [] []).2.2 ∧ J 0 28 = nI (fr + (amR tx n 101 true a [] []).2.2.length) ∧ fr + (amR tx n 101 true a [] []).2.2.length ≤ 100 * p + (amR tx n 101 true a [] []).2.1))) 22 [some (.ref 0), some (.int (nI c)), some (.int (b2 w)), none] [] (J) (h) 0 0 := by
    intro f
    induction f using Nat.strongRecOn with | _ f ih => ?_
    intro w a2 cs ws J hf hw hZ hv
    obtain ⟨l1, l2, l3, l4, l5⟩ := hZ.lt
    obtain ⟨f, rfl⟩ : ∃ z, f = z + 1 := ⟨f - 1, by omega⟩
    refine g_aload_0 hX (dk DX12_takesE_0 14 rfl) ?_
    refine g_c1I hX sX12_takesE_23 (by decide) (Nat.le_of_ble_eq_true rfl) (rc0 rfl (MLt hM (by decide)) (MC hM)) (by decide) (by decide) (q_next hG hM hZ.2.1 hZ.2.2.1) ?_
    refine g_istore_3 hX (dk DX12_takesE_0 16 rfl) (by decide) rfl ?_
    refine g_iload_2 hX (dk DX12_takesE_0 17 rfl) ?_
    refine g_if_eq (tgt := 110) hX (dk DX12_takesE_0 18 rfl) (by decide) (fun hc1 => ?_) (fun hc1 => ?_)
    · have hwt : w = false := by
        cases w
        · rfl
        · exact absurd hc1 (by decide)
      subst hwt
      refine g_iload_3 hX (dk DX12_takesE_1 4 rfl) ?_
      refine g_bipush (v := 38) hX (dk DX12_takesE_1 5 rfl) (by decide) ?_
      refine g_icmp_eq (tgt := 122) hX (dk DX12_takesE_1 6 rfl) (by decide) (fun hc2 => ?_) (fun hc2 => ?_)
      · have hb : nxA tx n a2 = 38 ∨ nxA tx n a2 = 124 := by first | exact Or.inl (by assumption) | exact Or.inr (by assumption)
        have hlt : a2 < n := by rcases hb with z | z <;> exact nxA_no (by decide) z
        have hb3 : ¬ (nxA tx n a2 = 33 ∨ nxA tx n a2 = 40) := by rcases hb with z | z <;> rw [z] <;> decide
        refine g_aload_0 hX (dk DX12_takesE_1 10 rfl) ?_
        refine g_iload_3 hX (dk DX12_takesE_1 11 rfl) ?_
        refine g_c2v hX sX12_takesE_124 (by decide) (Nat.le_of_ble_eq_true rfl) (rc0 rfl (MLt hM (by decide)) (MC hM)) (by decide) (by decide) (q_settle hG hM hp hZ) ?_
        rintro J9 _ ⟨rfl, hZ9⟩
        obtain ⟨m1, m2, m3, m4, m5⟩ := hZ9.lt
        refine g_aload_0 hX (dk DX12_takesE_1 13 rfl) ?_
        refine g_getRs (r := 16) hX (dk DX12_takesE_1 14 rfl) KX12 fX12_92 (by decide) rfl (MLt hM (by decide)) (MC hM) (MR hM 27 (by decide) rfl) ?_
        refine g_aload_0 hX (dk DX12_takesE_1 15 rfl) ?_
        refine g_getIv hX (dk DX12_takesE_1 16 rfl) KX12 fX12_98 (by decide) rfl (MLt hM (by decide)) (MC hM) (hZ9.2.2.2.2.2.1) ?_
        refine g_iload_3 hX (dk DX12_takesE_1 17 rfl) ?_
        refine i_iastore hX (dk DX12_takesE_1 18 rfl) (MLt hM (q := 16) (by decide)) (MS hM 16 (by decide) rfl) (⟨rfl, by omega, by decide⟩) ?_
        refine g_aload_0 hX (dk DX12_takesE_1 19 rfl) ?_
        refine g_dup hX (dk DX12_takesE_1 20 rfl) rfl ?_
        refine g_getIv hX (dk DX12_takesE_1 21 rfl) KX12 fX12_98 (by decide) rfl (MLt hM (by decide)) (MC hM) ((show _ = nI (seA (nxA tx n a2) ws cs).2.length from hZ9.2.2.2.2.2.1)) ?_
        refine g_iconst (v := 1) hX (dk DX12_takesE_1 22 rfl) (by decide) ?_
        refine g_iadd hX (dk DX12_takesE_1 23 rfl) ?_
        refine g_nmI (nI ((seA (nxA tx n a2) ws cs).2.length + 1)) (nI_1 _) ?_
        refine g_putI hX (dk DX12_takesE_1 24 rfl) KX12 fX12_98 (by decide) rfl (MLt hM (by decide)) (MC hM) (Or.inl rfl) (rfl) (rfl) ?_
        refine g_iconst (v := 1) hX (dk DX12_takesE_1 25 rfl) (by decide) ?_
        refine g_istore_2 hX (dk DX12_takesE_1 26 rfl) (by decide) rfl ?_
        refine g_aload_0 hX (dk DX12_takesE_1 27 rfl) ?_
        refine g_dup hX (dk DX12_takesE_1 28 rfl) rfl ?_
        refine g_getIv hX (dk DX12_takesE_1 29 rfl) KX12 fX12_65 (by decide) rfl (MLt hM (by decide)) (MC hM) ((show _ = nI a2 from hZ9.2.2.1.1)) ?_
        refine g_iconst (v := 1) hX (dk DX12_takesE_1 30 rfl) (by decide) ?_
        refine g_iadd hX (dk DX12_takesE_1 31 rfl) ?_
        refine g_nmI (nI (a2 + 1)) (nI_1 _) ?_
        refine g_putI hX (dk DX12_takesE_1 32 rfl) KX12 fX12_65 (by decide) rfl (MLt hM (by decide)) (MC hM) (Or.inl rfl) (rfl) (rfl) ?_
        refine g_goto (tgt := 22) hX (dk DX12_takesE_1 33 rfl) (by decide) ?_
        first
        | exact g_fgt (ih f (by omega) true (a2 + 1) cs (nxA tx n a2 :: ws) _ (by omega) (hw.cn (by rcases ho with z | z <;> rw [z] <;> decide)) (hZ.push hlt (by rw [opn_c, if_pos ho])) (by rw [← hv, am_o ho h4])) ⟨rfl, rfl, rfl, trivial⟩
        | exact g_fgt (ih f (by omega) false _ _ _ _ (by have := ts_gt hts; omega) (hw.wh _) (hZ9 hts) (by rw [← hv, am_t hno hts])) ⟨rfl, rfl, rfl, trivial⟩
        | exact g_fgt (ih f (by omega) true (a2 + 1) _ (nxA tx n a2 :: (seA (nxA tx n a2) ws cs).2) _ (by omega) ((hw.se _).cn (by rcases hb with z | z <;> rw [z] <;> decide)) (hZ9.push0 hlt hb3) (by rw [← hv, am_b hb])) ⟨rfl, rfl, rfl, trivial⟩
        | exact g_fgt (ih f (by omega) false (a2 + 1) _ _ _ (by omega) (hw10.wh _) hZ8 (by rw [← hv, am_c hnb hne h41, ext]; rfl)) ⟨rfl, rfl, rfl, trivial⟩
      · refine g_iload_3 hX (dk DX12_takesE_1 7 rfl) ?_
        refine g_bipush (v := 124) hX (dk DX12_takesE_1 8 rfl) (by decide) ?_
        refine g_icmp_ne (tgt := 162) hX (dk DX12_takesE_1 9 rfl) (by decide) (fun hc3 => ?_) (fun hc3 => ?_)
        · have hnb : ¬ (nxA tx n a2 = 38 ∨ nxA tx n a2 = 124) := by rintro (z | z) <;> contradiction
          refine g_aload_0 hX (dk DX12_takesE_1 34 rfl) ?_
          refine g_bipush (v := 124) hX (dk DX12_takesE_1 35 rfl) (by decide) ?_
          refine g_c2v hX sX12_takesE_165 (by decide) (Nat.le_of_ble_eq_true rfl) (rc0 rfl (MLt hM (by decide)) (MC hM)) (by decide) (by decide) (q_settle hG hM hp hZ) ?_
          rintro J9 _ ⟨rfl, hZ9⟩
          obtain ⟨m1, m2, m3, m4, m5⟩ := hZ9.lt
          refine g_aload_0 hX (dk DX12_takesE_1 37 rfl) ?_
          refine g_getRs (r := 14) hX (dk DX12_takesE_1 38 rfl) KX12 fX12_86 (by decide) rfl (MLt hM (by decide)) (MC hM) (MR hM 25 (by decide) rfl) ?_
          refine g_iload_1 hX (dk DX12_takesE_1 39 rfl) ?_
          refine g_aload_0 hX (dk DX12_takesE_1 40 rfl) ?_
          refine g_getIv hX (dk DX12_takesE_1 41 rfl) KX12 fX12_95 (by decide) rfl (MLt hM (by decide)) (MC hM) (hZ9.2.2.2.1.1) ?_
          refine i_iastore hX (dk DX12_takesE_1 42 rfl) (MLt hM (q := 14) (by decide)) (MS hM 14 (by decide) rfl) (⟨rfl, hc, by decide⟩) ?_
          refine g_aload_0 hX (dk DX12_takesE_1 43 rfl) ?_
          refine g_getIv hX (dk DX12_takesE_1 44 rfl) KX12 fX12_98 (by decide) rfl (MLt hM (by decide)) (MC hM) ((show _ = nI (seA 124 ws cs).2.length from hZ9.2.2.2.2.2.1)) ?_
          refine g_if_ne (tgt := 187) hX (dk DX12_takesE_1 45 rfl) (by decide) (fun hc4 => ?_) (fun hc4 => ?_)
          · obtain ⟨x, t, ext⟩ := cons_0 (by omega) hc4
            have hne : ¬ (seA 124 ws cs).2 = [] := by rw [ext]; exact List.cons_ne_nil _ _
            refine g_iload_3 hX (dk DX12_takesE_1 48 rfl) ?_
            refine g_bipush (v := 41) hX (dk DX12_takesE_1 49 rfl) (by decide) ?_
            refine g_icmp_eq (tgt := 195) hX (dk DX12_takesE_1 50 rfl) (by decide) (fun hc5 => ?_) (fun hc5 => ?_)
            · have h41 := hc5
              have hlt : a2 < n := nxA_no (by decide) h41
              have hx : x = 33 ∨ x = 40 := by
                have q1 := hw.se (s := 124) cs x (by rw [ext]; exact List.mem_cons_self)
                have q2 := se_top ext
                rcases q1 with z | z | z | z
                · exact Or.inl z
                · exact Or.inr z
                · exact absurd z q2.1
                · exact absurd z q2.2
              have hw10 : okW t := by have q1 := hw.se (s := 124) cs; rw [ext] at q1; exact q1.tl
              have hZ10 := hZ9.w14 (x := nI (fr + (seA 124 ws cs).1.length))
              rw [ext] at hZ10
              have ho10 := hZ10.2.2.2.2.2.2.2.trans (show nI (opn (x :: t)) = nI (opn t + 1) by rw [opn_c, if_pos hx])
              refine g_aload_0 hX (dk DX12_takesE_1 53 rfl) ?_
              refine g_dup hX (dk DX12_takesE_1 54 rfl) rfl ?_
              refine g_getIv hX (dk DX12_takesE_1 55 rfl) KX12 fX12_98 (by decide) rfl (MLt hM (by decide)) (MC hM) ((show _ = nI (t.length + 1) from hZ10.2.2.2.2.2.1)) ?_
              refine g_iconst (v := 1) hX (dk DX12_takesE_1 56 rfl) (by decide) ?_
              refine g_isub hX (dk DX12_takesE_1 57 rfl) ?_
              refine g_nmI (nI t.length) (nI_pred _) ?_
              refine g_putI hX (dk DX12_takesE_1 58 rfl) KX12 fX12_98 (by decide) rfl (MLt hM (by decide)) (MC hM) (Or.inl rfl) (rfl) (rfl) ?_
              refine g_aload_0 hX (dk DX12_takesE_1 59 rfl) ?_
              refine g_dup hX (dk DX12_takesE_2 0 rfl) rfl ?_
              refine g_getIv hX (dk DX12_takesE_2 1 rfl) KX12 fX12_101 (by decide) rfl (MLt hM (by decide)) (MC hM) ((show _ = nI (opn t + 1) from ho10)) ?_
              refine g_iconst (v := 1) hX (dk DX12_takesE_2 2 rfl) (by decide) ?_
              refine g_isub hX (dk DX12_takesE_2 3 rfl) ?_
              refine g_nmI (nI (opn t)) (nI_pred _) ?_
              refine g_putI hX (dk DX12_takesE_2 4 rfl) KX12 fX12_101 (by decide) rfl (MLt hM (by decide)) (MC hM) (Or.inl rfl) (rfl) (rfl) ?_
              refine g_aload_0 hX (dk DX12_takesE_2 5 rfl) ?_
              refine g_dup hX (dk DX12_takesE_2 6 rfl) rfl ?_
              refine g_getIv hX (dk DX12_takesE_2 7 rfl) KX12 fX12_65 (by decide) rfl (MLt hM (by decide)) (MC hM) ((show _ = nI a2 from hZ9.2.2.1.1)) ?_
              refine g_iconst (v := 1) hX (dk DX12_takesE_2 8 rfl) (by decide) ?_
              refine g_iadd hX (dk DX12_takesE_2 9 rfl) ?_
              refine g_nmI (nI (a2 + 1)) (nI_1 _) ?_
              refine g_putI hX (dk DX12_takesE_2 10 rfl) KX12 fX12_65 (by decide) rfl (MLt hM (by decide)) (MC hM) (Or.inl rfl) (rfl) (rfl) ?_
              refine g_aload_0 hX (dk DX12_takesE_2 11 rfl) ?_
              refine g_c1v hX sX12_takesE_226 (by decide) (Nat.le_of_ble_eq_true rfl) (rc0 rfl (MLt hM (by decide)) (MC hM)) (by decide) (by decide) (q_whole hG hM hp (hZ10.pop hlt)) ?_
              rintro J8 _ ⟨rfl, hZ8⟩
              refine g_goto (tgt := 22) hX (dk DX12_takesE_2 13 rfl) (by decide) ?_
              first
              | exact g_fgt (ih f (by omega) true (a2 + 1) cs (nxA tx n a2 :: ws) _ (by omega) (hw.cn (by rcases ho with z | z <;> rw [z] <;> decide)) (hZ.push hlt (by rw [opn_c, if_pos ho])) (by rw [← hv, am_o ho h4])) ⟨rfl, rfl, rfl, trivial⟩
              | exact g_fgt (ih f (by omega) false _ _ _ _ (by have := ts_gt hts; omega) (hw.wh _) (hZ9 hts) (by rw [← hv, am_t hno hts])) ⟨rfl, rfl, rfl, trivial⟩
              | exact g_fgt (ih f (by omega) true (a2 + 1) _ (nxA tx n a2 :: (seA (nxA tx n a2) ws cs).2) _ (by omega) ((hw.se _).cn (by rcases hb with z | z <;> rw [z] <;> decide)) (hZ9.push0 hlt hb3) (by rw [← hv, am_b hb])) ⟨rfl, rfl, rfl, trivial⟩
              | exact g_fgt (ih f (by omega) false (a2 + 1) _ _ _ (by omega) (hw10.wh _) hZ8 (by rw [← hv, am_c hnb hne h41, ext]; rfl)) ⟨rfl, rfl, rfl, trivial⟩
            · refine g_iconst (v := 0) hX (dk DX12_takesE_1 51 rfl) (by decide) ?_
              refine g_ireturn hX (dk DX12_takesE_1 52 rfl) rfl (by decide) (by decide) (by decide) ?_
              have e := am_x (f := f) hnb hne (by assumption)
              rw [e] at hv
              rw [← hv]
              exact qI_of ⟨rfl, rfl, (hZ9.w14).mf.1, (hZ9.w14).mf.2.1, (hZ9.w14).mf.2.2, fun z => absurd (show false = true from z) Bool.false_ne_true⟩
          · refine g_iconst (v := 1) hX (dk DX12_takesE_1 46 rfl) (by decide) ?_
            refine g_ireturn hX (dk DX12_takesE_1 47 rfl) rfl (by decide) (by decide) (by decide) ?_
            have hnil := nil_0 (by omega) (show nI (seA 124 ws cs).2.length = 0 by assumption)
            have e := am_e (f := f) hnb hnil
            rw [e] at hv
            rw [← hv]
            have hZ10 := hZ9.w14 (x := nI (fr + (seA 124 ws cs).1.length))
            exact qI_of ⟨rfl, rfl, hZ10.1, hZ10.2.1, hZ10.2.2.1, fun _ => ⟨up0 _ _ _ _, hZ10.2.2.2.2.1, hZ10.2.2.2.1.1, by show fr + (seA 124 ws cs).1.length ≤ 100 * p + a2; omega⟩⟩
        · have hb : nxA tx n a2 = 38 ∨ nxA tx n a2 = 124 := by first | exact Or.inl (by assumption) | exact Or.inr (by assumption)
          have hlt : a2 < n := by rcases hb with z | z <;> exact nxA_no (by decide) z
          have hb3 : ¬ (nxA tx n a2 = 33 ∨ nxA tx n a2 = 40) := by rcases hb with z | z <;> rw [z] <;> decide
          refine g_aload_0 hX (dk DX12_takesE_1 10 rfl) ?_
          refine g_iload_3 hX (dk DX12_takesE_1 11 rfl) ?_
          refine g_c2v hX sX12_takesE_124 (by decide) (Nat.le_of_ble_eq_true rfl) (rc0 rfl (MLt hM (by decide)) (MC hM)) (by decide) (by decide) (q_settle hG hM hp hZ) ?_
          rintro J9 _ ⟨rfl, hZ9⟩
          obtain ⟨m1, m2, m3, m4, m5⟩ := hZ9.lt
          refine g_aload_0 hX (dk DX12_takesE_1 13 rfl) ?_
          refine g_getRs (r := 16) hX (dk DX12_takesE_1 14 rfl) KX12 fX12_92 (by decide) rfl (MLt hM (by decide)) (MC hM) (MR hM 27 (by decide) rfl) ?_
          refine g_aload_0 hX (dk DX12_takesE_1 15 rfl) ?_
          refine g_getIv hX (dk DX12_takesE_1 16 rfl) KX12 fX12_98 (by decide) rfl (MLt hM (by decide)) (MC hM) (hZ9.2.2.2.2.2.1) ?_
          refine g_iload_3 hX (dk DX12_takesE_1 17 rfl) ?_
          refine i_iastore hX (dk DX12_takesE_1 18 rfl) (MLt hM (q := 16) (by decide)) (MS hM 16 (by decide) rfl) (⟨rfl, by omega, by decide⟩) ?_
          refine g_aload_0 hX (dk DX12_takesE_1 19 rfl) ?_
          refine g_dup hX (dk DX12_takesE_1 20 rfl) rfl ?_
          refine g_getIv hX (dk DX12_takesE_1 21 rfl) KX12 fX12_98 (by decide) rfl (MLt hM (by decide)) (MC hM) ((show _ = nI (seA (nxA tx n a2) ws cs).2.length from hZ9.2.2.2.2.2.1)) ?_
          refine g_iconst (v := 1) hX (dk DX12_takesE_1 22 rfl) (by decide) ?_
          refine g_iadd hX (dk DX12_takesE_1 23 rfl) ?_
          refine g_nmI (nI ((seA (nxA tx n a2) ws cs).2.length + 1)) (nI_1 _) ?_
          refine g_putI hX (dk DX12_takesE_1 24 rfl) KX12 fX12_98 (by decide) rfl (MLt hM (by decide)) (MC hM) (Or.inl rfl) (rfl) (rfl) ?_
          refine g_iconst (v := 1) hX (dk DX12_takesE_1 25 rfl) (by decide) ?_
          refine g_istore_2 hX (dk DX12_takesE_1 26 rfl) (by decide) rfl ?_
          refine g_aload_0 hX (dk DX12_takesE_1 27 rfl) ?_
          refine g_dup hX (dk DX12_takesE_1 28 rfl) rfl ?_
          refine g_getIv hX (dk DX12_takesE_1 29 rfl) KX12 fX12_65 (by decide) rfl (MLt hM (by decide)) (MC hM) ((show _ = nI a2 from hZ9.2.2.1.1)) ?_
          refine g_iconst (v := 1) hX (dk DX12_takesE_1 30 rfl) (by decide) ?_
          refine g_iadd hX (dk DX12_takesE_1 31 rfl) ?_
          refine g_nmI (nI (a2 + 1)) (nI_1 _) ?_
          refine g_putI hX (dk DX12_takesE_1 32 rfl) KX12 fX12_65 (by decide) rfl (MLt hM (by decide)) (MC hM) (Or.inl rfl) (rfl) (rfl) ?_
          refine g_goto (tgt := 22) hX (dk DX12_takesE_1 33 rfl) (by decide) ?_
          first
          | exact g_fgt (ih f (by omega) true (a2 + 1) cs (nxA tx n a2 :: ws) _ (by omega) (hw.cn (by rcases ho with z | z <;> rw [z] <;> decide)) (hZ.push hlt (by rw [opn_c, if_pos ho])) (by rw [← hv, am_o ho h4])) ⟨rfl, rfl, rfl, trivial⟩
          | exact g_fgt (ih f (by omega) false _ _ _ _ (by have := ts_gt hts; omega) (hw.wh _) (hZ9 hts) (by rw [← hv, am_t hno hts])) ⟨rfl, rfl, rfl, trivial⟩
          | exact g_fgt (ih f (by omega) true (a2 + 1) _ (nxA tx n a2 :: (seA (nxA tx n a2) ws cs).2) _ (by omega) ((hw.se _).cn (by rcases hb with z | z <;> rw [z] <;> decide)) (hZ9.push0 hlt hb3) (by rw [← hv, am_b hb])) ⟨rfl, rfl, rfl, trivial⟩
          | exact g_fgt (ih f (by omega) false (a2 + 1) _ _ _ (by omega) (hw10.wh _) hZ8 (by rw [← hv, am_c hnb hne h41, ext]; rfl)) ⟨rfl, rfl, rfl, trivial⟩
    · have hwt : w = true := by
        cases w
        · exact absurd rfl hc1
        · rfl
      subst hwt
      refine g_iload_3 hX (dk DX12_takesE_0 19 rfl) ?_
      refine g_bipush (v := 33) hX (dk DX12_takesE_0 20 rfl) (by decide) ?_
      refine g_icmp_eq (tgt := 43) hX (dk DX12_takesE_0 21 rfl) (by decide) (fun hc6 => ?_) (fun hc6 => ?_)
      · have ho : nxA tx n a2 = 33 ∨ nxA tx n a2 = 40 := by first | exact Or.inl (by assumption) | exact Or.inr (by assumption)
        have hlt : a2 < n := by rcases ho with z | z <;> exact nxA_no (by decide) z
        have hol := opn_le ws
        refine g_aload_0 hX (dk DX12_takesE_0 25 rfl) ?_
        refine g_getIv hX (dk DX12_takesE_0 26 rfl) KX12 fX12_101 (by decide) rfl (MLt hM (by decide)) (MC hM) (hZ.2.2.2.2.2.2.2) ?_
        refine g_iconst (v := 4) hX (dk DX12_takesE_0 27 rfl) (by decide) ?_
        refine g_icmp_ne (tgt := 53) hX (dk DX12_takesE_0 28 rfl) (by decide) (fun hc7 => ?_) (fun hc7 => ?_)
        · have h4 : ¬ opn ws = 4 := fun z => hc7 (by rw [z]; rfl)
          refine g_aload_0 hX (dk DX12_takesE_0 31 rfl) ?_
          refine g_dup hX (dk DX12_takesE_0 32 rfl) rfl ?_
          refine g_getIv hX (dk DX12_takesE_0 33 rfl) KX12 fX12_101 (by decide) rfl (MLt hM (by decide)) (MC hM) (hZ.2.2.2.2.2.2.2) ?_
          refine g_iconst (v := 1) hX (dk DX12_takesE_0 34 rfl) (by decide) ?_
          refine g_iadd hX (dk DX12_takesE_0 35 rfl) ?_
          refine g_nmI (nI (opn ws + 1)) (nI_1 _) ?_
          refine g_putI hX (dk DX12_takesE_0 36 rfl) KX12 fX12_101 (by decide) rfl (MLt hM (by decide)) (MC hM) (Or.inl rfl) (rfl) (rfl) ?_
          refine g_aload_0 hX (dk DX12_takesE_0 37 rfl) ?_
          refine g_getRs (r := 16) hX (dk DX12_takesE_0 38 rfl) KX12 fX12_92 (by decide) rfl (MLt hM (by decide)) (MC hM) (MR hM 27 (by decide) rfl) ?_
          refine g_aload_0 hX (dk DX12_takesE_0 39 rfl) ?_
          refine g_getIv hX (dk DX12_takesE_0 40 rfl) KX12 fX12_98 (by decide) rfl (MLt hM (by decide)) (MC hM) ((show _ = nI ws.length from hZ.2.2.2.2.2.1)) ?_
          refine g_iload_3 hX (dk DX12_takesE_0 41 rfl) ?_
          refine i_iastore hX (dk DX12_takesE_0 42 rfl) (MLt hM (q := 16) (by decide)) (MS hM 16 (by decide) rfl) (⟨rfl, by omega, by decide⟩) ?_
          refine g_aload_0 hX (dk DX12_takesE_0 43 rfl) ?_
          refine g_dup hX (dk DX12_takesE_0 44 rfl) rfl ?_
          refine g_getIv hX (dk DX12_takesE_0 45 rfl) KX12 fX12_98 (by decide) rfl (MLt hM (by decide)) (MC hM) ((show _ = nI ws.length from hZ.2.2.2.2.2.1)) ?_
          refine g_iconst (v := 1) hX (dk DX12_takesE_0 46 rfl) (by decide) ?_
          refine g_iadd hX (dk DX12_takesE_0 47 rfl) ?_
          refine g_nmI (nI (ws.length + 1)) (nI_1 _) ?_
          refine g_putI hX (dk DX12_takesE_0 48 rfl) KX12 fX12_98 (by decide) rfl (MLt hM (by decide)) (MC hM) (Or.inl rfl) (rfl) (rfl) ?_
          refine g_aload_0 hX (dk DX12_takesE_0 49 rfl) ?_
          refine g_dup hX (dk DX12_takesE_0 50 rfl) rfl ?_
          refine g_getIv hX (dk DX12_takesE_0 51 rfl) KX12 fX12_65 (by decide) rfl (MLt hM (by decide)) (MC hM) ((show _ = nI a2 from hZ.2.2.1.1)) ?_
          refine g_iconst (v := 1) hX (dk DX12_takesE_0 52 rfl) (by decide) ?_
          refine g_iadd hX (dk DX12_takesE_0 53 rfl) ?_
          refine g_nmI (nI (a2 + 1)) (nI_1 _) ?_
          refine g_putI hX (dk DX12_takesE_0 54 rfl) KX12 fX12_65 (by decide) rfl (MLt hM (by decide)) (MC hM) (Or.inl rfl) (rfl) (rfl) ?_
          refine g_goto (tgt := 22) hX (dk DX12_takesE_0 55 rfl) (by decide) ?_
          first
          | exact g_fgt (ih f (by omega) true (a2 + 1) cs (nxA tx n a2 :: ws) _ (by omega) (hw.cn (by rcases ho with z | z <;> rw [z] <;> decide)) (hZ.push hlt (by rw [opn_c, if_pos ho])) (by rw [← hv, am_o ho h4])) ⟨rfl, rfl, rfl, trivial⟩
          | exact g_fgt (ih f (by omega) false _ _ _ _ (by have := ts_gt hts; omega) (hw.wh _) (hZ9 hts) (by rw [← hv, am_t hno hts])) ⟨rfl, rfl, rfl, trivial⟩
          | exact g_fgt (ih f (by omega) true (a2 + 1) _ (nxA tx n a2 :: (seA (nxA tx n a2) ws cs).2) _ (by omega) ((hw.se _).cn (by rcases hb with z | z <;> rw [z] <;> decide)) (hZ9.push0 hlt hb3) (by rw [← hv, am_b hb])) ⟨rfl, rfl, rfl, trivial⟩
          | exact g_fgt (ih f (by omega) false (a2 + 1) _ _ _ (by omega) (hw10.wh _) hZ8 (by rw [← hv, am_c hnb hne h41, ext]; rfl)) ⟨rfl, rfl, rfl, trivial⟩
        · refine g_iconst (v := 0) hX (dk DX12_takesE_0 29 rfl) (by decide) ?_
          refine g_ireturn hX (dk DX12_takesE_0 30 rfl) rfl (by decide) (by decide) (by decide) ?_
          have e := am_o4 (f := f) (cs := cs) ho ((nI_eq (b := 4) (by omega) (by decide)).mp (show nI (opn ws) = nI 4 by assumption))
          rw [e] at hv
          rw [← hv]
          exact qI_of ⟨rfl, rfl, hZ.mf.1, hZ.mf.2.1, hZ.mf.2.2, fun z => absurd (show false = true from z) Bool.false_ne_true⟩
      · refine g_iload_3 hX (dk DX12_takesE_0 22 rfl) ?_
        refine g_bipush (v := 40) hX (dk DX12_takesE_0 23 rfl) (by decide) ?_
        refine g_icmp_ne (tgt := 96) hX (dk DX12_takesE_0 24 rfl) (by decide) (fun hc8 => ?_) (fun hc8 => ?_)
        · have hno : ¬ (nxA tx n a2 = 33 ∨ nxA tx n a2 = 40) := by rintro (z | z) <;> contradiction
          refine g_aload_0 hX (dk DX12_takesE_0 56 rfl) ?_
          refine g_c1q hX sX12_takesE_97 (by decide) (Nat.le_of_ble_eq_true rfl) (rc0 rfl (MLt hM (by decide)) (MC hM)) (by decide) (by decide) (q_takesTest hG hM hp hZ) ?_
          rintro v J9 h9 ⟨rfl, rfl, hF9, hZ9⟩
          refine g_ifb_eq (tgt := 108) hX (dk DX12_takesE_0 58 rfl) (by decide) (fun hc9 => ?_) (fun hc9 => ?_)
          · refine g_iconst (v := 0) hX (dk DX12_takesE_1 2 rfl) (by decide) ?_
            refine g_ireturn hX (dk DX12_takesE_1 3 rfl) rfl (by decide) (by decide) (by decide) ?_
            have e := am_tf (f := f) (cs := cs) (ws := ws) hno (by assumption)
            rw [e] at hv
            rw [← hv]
            exact qI_of ⟨rfl, rfl, hF9.1, hF9.2.1, hF9.2.2, fun z => absurd (show false = true from z) Bool.false_ne_true⟩
          · have hts := hc9
            refine g_iconst (v := 0) hX (dk DX12_takesE_0 59 rfl) (by decide) ?_
            refine g_istore_2 hX (dk DX12_takesE_1 0 rfl) (by decide) rfl ?_
            refine g_goto (tgt := 22) hX (dk DX12_takesE_1 1 rfl) (by decide) ?_
            first
            | exact g_fgt (ih f (by omega) true (a2 + 1) cs (nxA tx n a2 :: ws) _ (by omega) (hw.cn (by rcases ho with z | z <;> rw [z] <;> decide)) (hZ.push hlt (by rw [opn_c, if_pos ho])) (by rw [← hv, am_o ho h4])) ⟨rfl, rfl, rfl, trivial⟩
            | exact g_fgt (ih f (by omega) false _ _ _ _ (by have := ts_gt hts; omega) (hw.wh _) (hZ9 hts) (by rw [← hv, am_t hno hts])) ⟨rfl, rfl, rfl, trivial⟩
            | exact g_fgt (ih f (by omega) true (a2 + 1) _ (nxA tx n a2 :: (seA (nxA tx n a2) ws cs).2) _ (by omega) ((hw.se _).cn (by rcases hb with z | z <;> rw [z] <;> decide)) (hZ9.push0 hlt hb3) (by rw [← hv, am_b hb])) ⟨rfl, rfl, rfl, trivial⟩
            | exact g_fgt (ih f (by omega) false (a2 + 1) _ _ _ (by omega) (hw10.wh _) hZ8 (by rw [← hv, am_c hnb hne h41, ext]; rfl)) ⟨rfl, rfl, rfl, trivial⟩
        · have ho : nxA tx n a2 = 33 ∨ nxA tx n a2 = 40 := by first | exact Or.inl (by assumption) | exact Or.inr (by assumption)
          have hlt : a2 < n := by rcases ho with z | z <;> exact nxA_no (by decide) z
          have hol := opn_le ws
          refine g_aload_0 hX (dk DX12_takesE_0 25 rfl) ?_
          refine g_getIv hX (dk DX12_takesE_0 26 rfl) KX12 fX12_101 (by decide) rfl (MLt hM (by decide)) (MC hM) (hZ.2.2.2.2.2.2.2) ?_
          refine g_iconst (v := 4) hX (dk DX12_takesE_0 27 rfl) (by decide) ?_
          refine g_icmp_ne (tgt := 53) hX (dk DX12_takesE_0 28 rfl) (by decide) (fun hc10 => ?_) (fun hc10 => ?_)
          · have h4 : ¬ opn ws = 4 := fun z => hc10 (by rw [z]; rfl)
            refine g_aload_0 hX (dk DX12_takesE_0 31 rfl) ?_
            refine g_dup hX (dk DX12_takesE_0 32 rfl) rfl ?_
            refine g_getIv hX (dk DX12_takesE_0 33 rfl) KX12 fX12_101 (by decide) rfl (MLt hM (by decide)) (MC hM) (hZ.2.2.2.2.2.2.2) ?_
            refine g_iconst (v := 1) hX (dk DX12_takesE_0 34 rfl) (by decide) ?_
            refine g_iadd hX (dk DX12_takesE_0 35 rfl) ?_
            refine g_nmI (nI (opn ws + 1)) (nI_1 _) ?_
            refine g_putI hX (dk DX12_takesE_0 36 rfl) KX12 fX12_101 (by decide) rfl (MLt hM (by decide)) (MC hM) (Or.inl rfl) (rfl) (rfl) ?_
            refine g_aload_0 hX (dk DX12_takesE_0 37 rfl) ?_
            refine g_getRs (r := 16) hX (dk DX12_takesE_0 38 rfl) KX12 fX12_92 (by decide) rfl (MLt hM (by decide)) (MC hM) (MR hM 27 (by decide) rfl) ?_
            refine g_aload_0 hX (dk DX12_takesE_0 39 rfl) ?_
            refine g_getIv hX (dk DX12_takesE_0 40 rfl) KX12 fX12_98 (by decide) rfl (MLt hM (by decide)) (MC hM) ((show _ = nI ws.length from hZ.2.2.2.2.2.1)) ?_
            refine g_iload_3 hX (dk DX12_takesE_0 41 rfl) ?_
            refine i_iastore hX (dk DX12_takesE_0 42 rfl) (MLt hM (q := 16) (by decide)) (MS hM 16 (by decide) rfl) (⟨rfl, by omega, by decide⟩) ?_
            refine g_aload_0 hX (dk DX12_takesE_0 43 rfl) ?_
            refine g_dup hX (dk DX12_takesE_0 44 rfl) rfl ?_
            refine g_getIv hX (dk DX12_takesE_0 45 rfl) KX12 fX12_98 (by decide) rfl (MLt hM (by decide)) (MC hM) ((show _ = nI ws.length from hZ.2.2.2.2.2.1)) ?_
            refine g_iconst (v := 1) hX (dk DX12_takesE_0 46 rfl) (by decide) ?_
            refine g_iadd hX (dk DX12_takesE_0 47 rfl) ?_
            refine g_nmI (nI (ws.length + 1)) (nI_1 _) ?_
            refine g_putI hX (dk DX12_takesE_0 48 rfl) KX12 fX12_98 (by decide) rfl (MLt hM (by decide)) (MC hM) (Or.inl rfl) (rfl) (rfl) ?_
            refine g_aload_0 hX (dk DX12_takesE_0 49 rfl) ?_
            refine g_dup hX (dk DX12_takesE_0 50 rfl) rfl ?_
            refine g_getIv hX (dk DX12_takesE_0 51 rfl) KX12 fX12_65 (by decide) rfl (MLt hM (by decide)) (MC hM) ((show _ = nI a2 from hZ.2.2.1.1)) ?_
            refine g_iconst (v := 1) hX (dk DX12_takesE_0 52 rfl) (by decide) ?_
            refine g_iadd hX (dk DX12_takesE_0 53 rfl) ?_
            refine g_nmI (nI (a2 + 1)) (nI_1 _) ?_
            refine g_putI hX (dk DX12_takesE_0 54 rfl) KX12 fX12_65 (by decide) rfl (MLt hM (by decide)) (MC hM) (Or.inl rfl) (rfl) (rfl) ?_
            refine g_goto (tgt := 22) hX (dk DX12_takesE_0 55 rfl) (by decide) ?_
            first
            | exact g_fgt (ih f (by omega) true (a2 + 1) cs (nxA tx n a2 :: ws) _ (by omega) (hw.cn (by rcases ho with z | z <;> rw [z] <;> decide)) (hZ.push hlt (by rw [opn_c, if_pos ho])) (by rw [← hv, am_o ho h4])) ⟨rfl, rfl, rfl, trivial⟩
            | exact g_fgt (ih f (by omega) false _ _ _ _ (by have := ts_gt hts; omega) (hw.wh _) (hZ9 hts) (by rw [← hv, am_t hno hts])) ⟨rfl, rfl, rfl, trivial⟩
            | exact g_fgt (ih f (by omega) true (a2 + 1) _ (nxA tx n a2 :: (seA (nxA tx n a2) ws cs).2) _ (by omega) ((hw.se _).cn (by rcases hb with z | z <;> rw [z] <;> decide)) (hZ9.push0 hlt hb3) (by rw [← hv, am_b hb])) ⟨rfl, rfl, rfl, trivial⟩
            | exact g_fgt (ih f (by omega) false (a2 + 1) _ _ _ (by omega) (hw10.wh _) hZ8 (by rw [← hv, am_c hnb hne h41, ext]; rfl)) ⟨rfl, rfl, rfl, trivial⟩
          · refine g_iconst (v := 0) hX (dk DX12_takesE_0 29 rfl) (by decide) ?_
            refine g_ireturn hX (dk DX12_takesE_0 30 rfl) rfl (by decide) (by decide) (by decide) ?_
            have e := am_o4 (f := f) (cs := cs) ho ((nI_eq (b := 4) (by omega) (by decide)).mp (show nI (opn ws) = nI 4 by assumption))
            rw [e] at hv
            rw [← hv]
            exact qI_of ⟨rfl, rfl, hZ.mf.1, hZ.mf.2.1, hZ.mf.2.2, fun z => absurd (show false = true from z) Bool.false_ne_true⟩
  refine g_aload_0 hX (dk DX12_takesE_0 0 rfl) ?_
  refine g_iconst (v := 0) hX (dk DX12_takesE_0 1 rfl) (by decide) ?_
  refine g_putI hX (dk DX12_takesE_0 2 rfl) KX12 fX12_98 (by decide) rfl (MLt hM (by decide)) (MC hM) (Or.inl rfl) (rfl) (rfl) ?_
  refine g_aload_0 hX (dk DX12_takesE_0 3 rfl) ?_
  refine g_iconst (v := 0) hX (dk DX12_takesE_0 4 rfl) (by decide) ?_
  refine g_putI hX (dk DX12_takesE_0 5 rfl) KX12 fX12_101 (by decide) rfl (MLt hM (by decide)) (MC hM) (Or.inl rfl) (rfl) (rfl) ?_
  refine g_aload_0 hX (dk DX12_takesE_0 6 rfl) ?_
  refine g_getRs (r := 13) hX (dk DX12_takesE_0 7 rfl) KX12 fX12_83 (by decide) rfl (MLt hM (by decide)) (MC hM) (MR hM 24 (by decide) rfl) ?_
  refine g_iload_1 hX (dk DX12_takesE_0 8 rfl) ?_
  refine g_aload_0 hX (dk DX12_takesE_0 9 rfl) ?_
  refine g_getIv hX (dk DX12_takesE_0 10 rfl) KX12 fX12_95 (by decide) rfl (MLt hM (by decide)) (MC hM) ((show _ = nI fr from h28)) ?_
  refine i_iastore hX (dk DX12_takesE_0 11 rfl) (MLt hM (q := 13) (by decide)) (MS hM 13 (by decide) rfl) (⟨rfl, hc, by decide⟩) ?_
  refine g_iconst (v := 1) hX (dk DX12_takesE_0 12 rfl) (by decide) ?_
  refine g_istore_2 hX (dk DX12_takesE_0 13 rfl) (by decide) rfl ?_
  exact g_fgt (loop22 101 true a [] [] _ (by omega) (fun _ z => absurd z List.not_mem_nil) (MZ.start hT hA h28 h1 h2) rfl) ⟨rfl, rfl, rfl, trivial⟩

