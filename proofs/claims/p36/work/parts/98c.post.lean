section
set_option maxRecDepth 8000 in
set_option maxHeartbeats 4000000 in
theorem q_put {G : Gt} (hG : Gok G) {I : It} {h : Ht} (hM : HM h) {x : Int32} {s : Nat} (hs : I 0 28 = nI s) (h6 : s < 600) : Con G (1) 0 0 mX12_put [.ref 0, .int x] I h (rV (upI (upI I 15 s x) 0 28 (nI (s + 1))) h) := by
  refine con_intro (own := RX12) (lo0 := [some (.ref 0), some (.int x)]) hG rfl pl_X12 (Nat.le_of_ble_eq_true rfl) rfl (fun X hX => ?_)
  refine g_aload_0 hX (dk DX12_put 0 rfl) ?_
  refine g_getRs (r := 15) hX (dk DX12_put 1 rfl) KX12 fX12_89 (by decide) rfl (MLt hM (by decide)) (MC hM) (MR hM 26 (by decide) rfl) ?_
  refine g_aload_0 hX (dk DX12_put 2 rfl) ?_
  refine g_getIv hX (dk DX12_put 3 rfl) KX12 fX12_95 (by decide) rfl (MLt hM (by decide)) (MC hM) (hs) ?_
  refine g_iload_1 hX (dk DX12_put 4 rfl) ?_
  refine i_iastore hX (dk DX12_put 5 rfl) (MLt hM (q := 15) (by decide)) (MS hM 15 (by decide) rfl) (⟨rfl, h6, by decide⟩) ?_
  refine g_aload_0 hX (dk DX12_put 6 rfl) ?_
  refine g_dup hX (dk DX12_put 7 rfl) rfl ?_
  refine g_getIv hX (dk DX12_put 8 rfl) KX12 fX12_95 (by decide) rfl (MLt hM (by decide)) (MC hM) (hs) ?_
  refine g_iconst (v := 1) hX (dk DX12_put 9 rfl) (by decide) ?_
  refine g_iadd hX (dk DX12_put 10 rfl) ?_
  refine g_nmI (nI (s + 1)) (nI_1 s) ?_
  refine g_putI hX (dk DX12_put 11 rfl) KX12 fX12_95 (by decide) rfl (MLt hM (by decide)) (MC hM) (Or.inl rfl) (rfl) (rfl) ?_
  refine g_return hX (dk DX12_put 12 rfl) rfl (by decide) (by decide) ?_
  exact rV_of rfl rfl

set_option maxRecDepth 8000 in
set_option maxHeartbeats 4000000 in
theorem q_whole {G : Gt} (hG : Gok G) {I : It} {h : Ht} (hM : HM h) {p c fr : Nat} {tx : Nat → Int32} {n : Nat} {I0 : It} {a : Nat} {cs ws : List Int32} (hp : p < 6) (hZ : MZ p c fr tx n I0 I a cs ws)  : Con G (2) 0 0 mX12_whole [.ref 0] I h (qV (fun J h2 => h2 = h ∧ MZ p c fr tx n I0 J a (whA ws cs).1 (whA ws cs).2)) := by
  refine con_intro (own := RX12) (lo0 := [some (.ref 0)]) hG rfl pl_X12 (Nat.le_of_ble_eq_true rfl) rfl (fun X hX => ?_)
  have loop0 : ∀ (k : Nat) (r cs2 : List Int32) (J : It), r.length = k → MZ p c fr tx n I0 J a cs2 r → whA r cs2 = whA ws cs → GG G (2) 0 0 X (qV (fun J h2 => h2 = h ∧ MZ p c fr tx n I0 J a (whA ws cs).1 (whA ws cs).2)) 0 [some (.ref 0)] [] (J) (h) 0 0 := by
    intro k
    induction k using Nat.strongRecOn with | _ k ih => ?_
    intro r cs2 J hk hZ hv
    refine g_aload_0 hX (dk DX12_whole 0 rfl) ?_
    refine g_getIv hX (dk DX12_whole 1 rfl) KX12 fX12_98 (by decide) rfl (MLt hM (by decide)) (MC hM) (hZ.2.2.2.2.2.1) ?_
    refine g_if_le (tgt := 52) hX (dk DX12_whole 2 rfl) (by decide) (fun hc1 => ?_) (fun hc1 => ?_)
    · refine g_return hX (dk DX12_whole 28 rfl) rfl (by decide) (by decide) ?_
      first
      | exact qV_of ⟨rfl, by rw [← hv, whA_c, if_neg (by assumption)]; exact hZ⟩
      | (have hr := nil_of (by have := hZ.lt; omega) hc1
         subst hr
         exact qV_of ⟨rfl, by rw [← hv]; exact hZ⟩)
    · obtain ⟨x, t, rfl⟩ := ne_cons hc1
      obtain ⟨l1, l2, l3, l4, l5⟩ := hZ.lt
      simp only [List.length_cons] at l3 l5
      refine g_aload_0 hX (dk DX12_whole 3 rfl) ?_
      refine g_getRs (r := 16) hX (dk DX12_whole 4 rfl) KX12 fX12_92 (by decide) rfl (MLt hM (by decide)) (MC hM) (MR hM 27 (by decide) rfl) ?_
      refine g_aload_0 hX (dk DX12_whole 5 rfl) ?_
      refine g_getIv hX (dk DX12_whole 6 rfl) KX12 fX12_98 (by decide) rfl (MLt hM (by decide)) (MC hM) ((show J 0 29 = nI (t.length + 1) from hZ.2.2.2.2.2.1)) ?_
      refine g_iconst (v := 1) hX (dk DX12_whole 7 rfl) (by decide) ?_
      refine g_isub hX (dk DX12_whole 8 rfl) ?_
      refine g_nmI (nI t.length) (nI_pred _) ?_
      refine v_iaload hX (dk DX12_whole 9 rfl) (MLt hM (q := 16) (by decide)) (MS hM 16 (by decide) rfl) (⟨rfl, by omega, by decide⟩) (hZ.2.2.2.2.2.2.1.1) ?_
      refine g_bipush (v := 33) hX (dk DX12_whole 10 rfl) (by decide) ?_
      refine g_icmp_ne (tgt := 52) hX (dk DX12_whole 11 rfl) (by decide) (fun hc2 => ?_) (fun hc2 => ?_)
      · refine g_return hX (dk DX12_whole 28 rfl) rfl (by decide) (by decide) ?_
        first
        | exact qV_of ⟨rfl, by rw [← hv, whA_c, if_neg (by assumption)]; exact hZ⟩
        | (have hr := nil_of (by have := hZ.lt; omega) hc1
           subst hr
           exact qV_of ⟨rfl, by rw [← hv]; exact hZ⟩)
      · have hx := hc2
        subst hx
        have ho : J 0 30 = nI (opn t + 1) := hZ.2.2.2.2.2.2.2.trans (by rw [opn_c, if_pos (Or.inl rfl)])
        refine g_aload_0 hX (dk DX12_whole 12 rfl) ?_
        refine g_bipush (v := -33) hX (dk DX12_whole 13 rfl) (by decide) ?_
        refine g_c2V hX sX12_whole_26 (by decide) (Nat.le_of_ble_eq_true rfl) (rc0 rfl (MLt hM (by decide)) (MC hM)) (by decide) (by decide) (q_put hG hM (s := fr + cs2.length) hZ.2.2.2.1.1 (by omega)) ?_
        refine g_aload_0 hX (dk DX12_whole 15 rfl) ?_
        refine g_dup hX (dk DX12_whole 16 rfl) rfl ?_
        refine g_getIv hX (dk DX12_whole 17 rfl) KX12 fX12_98 (by decide) rfl (MLt hM (by decide)) (MC hM) ((show _ = nI (t.length + 1) from hZ.2.2.2.2.2.1)) ?_
        refine g_iconst (v := 1) hX (dk DX12_whole 18 rfl) (by decide) ?_
        refine g_isub hX (dk DX12_whole 19 rfl) ?_
        refine g_nmI (nI t.length) (nI_pred _) ?_
        refine g_putI hX (dk DX12_whole 20 rfl) KX12 fX12_98 (by decide) rfl (MLt hM (by decide)) (MC hM) (Or.inl rfl) (rfl) (rfl) ?_
        refine g_aload_0 hX (dk DX12_whole 21 rfl) ?_
        refine g_dup hX (dk DX12_whole 22 rfl) rfl ?_
        refine g_getIv hX (dk DX12_whole 23 rfl) KX12 fX12_101 (by decide) rfl (MLt hM (by decide)) (MC hM) ((show _ = nI (opn t + 1) from ho)) ?_
        refine g_iconst (v := 1) hX (dk DX12_whole 24 rfl) (by decide) ?_
        refine g_isub hX (dk DX12_whole 25 rfl) ?_
        refine g_nmI (nI (opn t)) (nI_pred _) ?_
        refine g_putI hX (dk DX12_whole 26 rfl) KX12 fX12_101 (by decide) rfl (MLt hM (by decide)) (MC hM) (Or.inl rfl) (rfl) (rfl) ?_
        refine g_goto (tgt := 0) hX (dk DX12_whole 27 rfl) (by decide) ?_
        exact g_fgt (ih t.length (by simp only [List.length_cons] at hk; omega) t _ _ rfl hZ.bang (by rw [← hv, whA_c, if_pos rfl])) ⟨rfl, trivial⟩
  exact g_fgt (loop0 ws.length ws cs I rfl hZ rfl) ⟨rfl, trivial⟩

set_option maxRecDepth 8000 in
set_option maxHeartbeats 4000000 in
theorem q_settle {G : Gt} (hG : Gok G) {I : It} {h : Ht} (hM : HM h) {p c fr : Nat} {tx : Nat → Int32} {n : Nat} {I0 : It} {a : Nat} {cs ws : List Int32} (hp : p < 6) (hZ : MZ p c fr tx n I0 I a cs ws) {s : Int32} : Con G (2) 0 0 mX12_settle [.ref 0, .int s] I h (qV (fun J h2 => h2 = h ∧ MZ p c fr tx n I0 J a (seA s ws cs).1 (seA s ws cs).2)) := by
  refine con_intro (own := RX12) (lo0 := [some (.ref 0), some (.int s)]) hG rfl pl_X12 (Nat.le_of_ble_eq_true rfl) rfl (fun X hX => ?_)
  have loop0 : ∀ (k : Nat) (r cs2 : List Int32) (J : It), r.length = k → MZ p c fr tx n I0 J a cs2 r → seA s r cs2 = seA s ws cs → GG G (2) 0 0 X (qV (fun J h2 => h2 = h ∧ MZ p c fr tx n I0 J a (seA s ws cs).1 (seA s ws cs).2)) 0 [some (.ref 0), some (.int s)] [] (J) (h) 0 0 := by
    intro k
    induction k using Nat.strongRecOn with | _ k ih => ?_
    intro r cs2 J hk hZ hv
    refine g_aload_0 hX (dk DX12_settle 0 rfl) ?_
    refine g_getIv hX (dk DX12_settle 1 rfl) KX12 fX12_98 (by decide) rfl (MLt hM (by decide)) (MC hM) (hZ.2.2.2.2.2.1) ?_
    refine g_if_le (tgt := 72) hX (dk DX12_settle 2 rfl) (by decide) (fun hc1 => ?_) (fun hc1 => ?_)
    · refine g_return hX (dk DX12_settle 39 rfl) rfl (by decide) (by decide) ?_
      first
      | (have hr := nil_of (by have := hZ.lt; omega) hc1
         subst hr
         exact qV_of ⟨rfl, by rw [← hv]; exact hZ⟩)
      | (have hst : seA s (x :: t) cs2 = (cs2, x :: t) := by rw [seA_c]; (try first | rw [if_pos hc1] | rw [if_neg hc1] | rw [if_neg (not_not_intro hc1)]); first | done | rfl
         exact qV_of ⟨rfl, by rw [← hv, hst]; exact hZ⟩)
    · obtain ⟨x, t, rfl⟩ := ne_cons hc1
      obtain ⟨l1, l2, l3, l4, l5⟩ := hZ.lt
      simp only [List.length_cons] at l3 l5
      refine g_aload_0 hX (dk DX12_settle 3 rfl) ?_
      refine g_getRs (r := 16) hX (dk DX12_settle 4 rfl) KX12 fX12_92 (by decide) rfl (MLt hM (by decide)) (MC hM) (MR hM 27 (by decide) rfl) ?_
      refine g_aload_0 hX (dk DX12_settle 5 rfl) ?_
      refine g_getIv hX (dk DX12_settle 6 rfl) KX12 fX12_98 (by decide) rfl (MLt hM (by decide)) (MC hM) ((show J 0 29 = nI (t.length + 1) from hZ.2.2.2.2.2.1)) ?_
      refine g_iconst (v := 1) hX (dk DX12_settle 7 rfl) (by decide) ?_
      refine g_isub hX (dk DX12_settle 8 rfl) ?_
      refine g_nmI (nI t.length) (nI_pred _) ?_
      refine v_iaload hX (dk DX12_settle 9 rfl) (MLt hM (q := 16) (by decide)) (MS hM 16 (by decide) rfl) (⟨rfl, by omega, by decide⟩) (hZ.2.2.2.2.2.2.1.1) ?_
      refine g_bipush (v := 38) hX (dk DX12_settle 10 rfl) (by decide) ?_
      refine g_icmp_eq (tgt := 45) hX (dk DX12_settle 11 rfl) (by decide) (fun hc2 => ?_) (fun hc2 => ?_)
      · have hx : ¬ (x = 33 ∨ x = 40) := by
          first
          | (rw [show x = 38 by assumption]; decide)
          | (rw [show x = 124 by assumption]; decide)
        have hst : seA s (x :: t) cs2 = seA s t (cs2 ++ [-x]) := by rw [seA_c]; (try first | rw [if_pos hc1] | rw [if_neg hc1] | rw [if_neg (not_not_intro hc1)]); (try first | rw [if_pos hc2] | rw [if_neg hc2] | rw [if_neg (not_not_intro hc2)]); first | done | rfl
        refine g_aload_0 hX (dk DX12_settle 24 rfl) ?_
        refine g_dup hX (dk DX12_settle 25 rfl) rfl ?_
        refine g_getIv hX (dk DX12_settle 26 rfl) KX12 fX12_98 (by decide) rfl (MLt hM (by decide)) (MC hM) ((show _ = nI (t.length + 1) from hZ.2.2.2.2.2.1)) ?_
        refine g_iconst (v := 1) hX (dk DX12_settle 27 rfl) (by decide) ?_
        refine g_isub hX (dk DX12_settle 28 rfl) ?_
        refine g_nmI (nI t.length) (nI_pred _) ?_
        refine g_putI hX (dk DX12_settle 29 rfl) KX12 fX12_98 (by decide) rfl (MLt hM (by decide)) (MC hM) (Or.inl rfl) (rfl) (rfl) ?_
        refine g_aload_0 hX (dk DX12_settle 30 rfl) ?_
        refine g_aload_0 hX (dk DX12_settle 31 rfl) ?_
        refine g_getRs (r := 16) hX (dk DX12_settle 32 rfl) KX12 fX12_92 (by decide) rfl (MLt hM (by decide)) (MC hM) (MR hM 27 (by decide) rfl) ?_
        refine g_aload_0 hX (dk DX12_settle 33 rfl) ?_
        refine g_getIv hX (dk DX12_settle 34 rfl) KX12 fX12_98 (by decide) rfl (MLt hM (by decide)) (MC hM) ((show _ = nI t.length from rfl)) ?_
        refine v_iaload hX (dk DX12_settle 35 rfl) (MLt hM (q := 16) (by decide)) (MS hM 16 (by decide) rfl) (⟨rfl, by omega, by decide⟩) ((show _ = x from hZ.2.2.2.2.2.2.1.1)) ?_
        refine g_ineg hX (dk DX12_settle 36 rfl) ?_
        refine g_c2V hX sX12_settle_66 (by decide) (Nat.le_of_ble_eq_true rfl) (rc0 rfl (MLt hM (by decide)) (MC hM)) (by decide) (by decide) (q_put hG hM (s := fr + cs2.length) (show _ = _ from hZ.2.2.2.1.1) (by omega)) ?_
        refine g_goto (tgt := 0) hX (dk DX12_settle 38 rfl) (by decide) ?_
        exact g_fgt (ih t.length (by simp only [List.length_cons] at hk; omega) t _ _ rfl (hZ.op hx) (by rw [← hv, hst])) ⟨rfl, rfl, trivial⟩
      · refine g_aload_0 hX (dk DX12_settle 12 rfl) ?_
        refine g_getRs (r := 16) hX (dk DX12_settle 13 rfl) KX12 fX12_92 (by decide) rfl (MLt hM (by decide)) (MC hM) (MR hM 27 (by decide) rfl) ?_
        refine g_aload_0 hX (dk DX12_settle 14 rfl) ?_
        refine g_getIv hX (dk DX12_settle 15 rfl) KX12 fX12_98 (by decide) rfl (MLt hM (by decide)) (MC hM) ((show J 0 29 = nI (t.length + 1) from hZ.2.2.2.2.2.1)) ?_
        refine g_iconst (v := 1) hX (dk DX12_settle 16 rfl) (by decide) ?_
        refine g_isub hX (dk DX12_settle 17 rfl) ?_
        refine g_nmI (nI t.length) (nI_pred _) ?_
        refine v_iaload hX (dk DX12_settle 18 rfl) (MLt hM (q := 16) (by decide)) (MS hM 16 (by decide) rfl) (⟨rfl, by omega, by decide⟩) (hZ.2.2.2.2.2.2.1.1) ?_
        refine g_bipush (v := 124) hX (dk DX12_settle 19 rfl) (by decide) ?_
        refine g_icmp_ne (tgt := 72) hX (dk DX12_settle 20 rfl) (by decide) (fun hc3 => ?_) (fun hc3 => ?_)
        · refine g_return hX (dk DX12_settle 39 rfl) rfl (by decide) (by decide) ?_
          first
          | (have hr := nil_of (by have := hZ.lt; omega) hc1
             subst hr
             exact qV_of ⟨rfl, by rw [← hv]; exact hZ⟩)
          | (have hst : seA s (x :: t) cs2 = (cs2, x :: t) := by rw [seA_c]; (try first | rw [if_pos hc1] | rw [if_neg hc1] | rw [if_neg (not_not_intro hc1)]); (try first | rw [if_pos hc2] | rw [if_neg hc2] | rw [if_neg (not_not_intro hc2)]); (try first | rw [if_pos hc3] | rw [if_neg hc3] | rw [if_neg (not_not_intro hc3)]); first | done | rfl
             exact qV_of ⟨rfl, by rw [← hv, hst]; exact hZ⟩)
        · refine g_iload_1 hX (dk DX12_settle 21 rfl) ?_
          refine g_bipush (v := 38) hX (dk DX12_settle 22 rfl) (by decide) ?_
          refine g_icmp_eq (tgt := 72) hX (dk DX12_settle 23 rfl) (by decide) (fun hc4 => ?_) (fun hc4 => ?_)
          · refine g_return hX (dk DX12_settle 39 rfl) rfl (by decide) (by decide) ?_
            first
            | (have hr := nil_of (by have := hZ.lt; omega) hc1
               subst hr
               exact qV_of ⟨rfl, by rw [← hv]; exact hZ⟩)
            | (have hst : seA s (x :: t) cs2 = (cs2, x :: t) := by rw [seA_c]; (try first | rw [if_pos hc1] | rw [if_neg hc1] | rw [if_neg (not_not_intro hc1)]); (try first | rw [if_pos hc2] | rw [if_neg hc2] | rw [if_neg (not_not_intro hc2)]); (try first | rw [if_pos hc3] | rw [if_neg hc3] | rw [if_neg (not_not_intro hc3)]); (try first | rw [if_pos hc4] | rw [if_neg hc4] | rw [if_neg (not_not_intro hc4)]); first | done | rfl
               exact qV_of ⟨rfl, by rw [← hv, hst]; exact hZ⟩)
          · have hx : ¬ (x = 33 ∨ x = 40) := by
              first
              | (rw [show x = 38 by assumption]; decide)
              | (rw [show x = 124 by assumption]; decide)
            have hst : seA s (x :: t) cs2 = seA s t (cs2 ++ [-x]) := by rw [seA_c]; (try first | rw [if_pos hc1] | rw [if_neg hc1] | rw [if_neg (not_not_intro hc1)]); (try first | rw [if_pos hc2] | rw [if_neg hc2] | rw [if_neg (not_not_intro hc2)]); (try first | rw [if_pos hc3] | rw [if_neg hc3] | rw [if_neg (not_not_intro hc3)]); (try first | rw [if_pos hc4] | rw [if_neg hc4] | rw [if_neg (not_not_intro hc4)]); first | done | rfl
            refine g_aload_0 hX (dk DX12_settle 24 rfl) ?_
            refine g_dup hX (dk DX12_settle 25 rfl) rfl ?_
            refine g_getIv hX (dk DX12_settle 26 rfl) KX12 fX12_98 (by decide) rfl (MLt hM (by decide)) (MC hM) ((show _ = nI (t.length + 1) from hZ.2.2.2.2.2.1)) ?_
            refine g_iconst (v := 1) hX (dk DX12_settle 27 rfl) (by decide) ?_
            refine g_isub hX (dk DX12_settle 28 rfl) ?_
            refine g_nmI (nI t.length) (nI_pred _) ?_
            refine g_putI hX (dk DX12_settle 29 rfl) KX12 fX12_98 (by decide) rfl (MLt hM (by decide)) (MC hM) (Or.inl rfl) (rfl) (rfl) ?_
            refine g_aload_0 hX (dk DX12_settle 30 rfl) ?_
            refine g_aload_0 hX (dk DX12_settle 31 rfl) ?_
            refine g_getRs (r := 16) hX (dk DX12_settle 32 rfl) KX12 fX12_92 (by decide) rfl (MLt hM (by decide)) (MC hM) (MR hM 27 (by decide) rfl) ?_
            refine g_aload_0 hX (dk DX12_settle 33 rfl) ?_
            refine g_getIv hX (dk DX12_settle 34 rfl) KX12 fX12_98 (by decide) rfl (MLt hM (by decide)) (MC hM) ((show _ = nI t.length from rfl)) ?_
            refine v_iaload hX (dk DX12_settle 35 rfl) (MLt hM (q := 16) (by decide)) (MS hM 16 (by decide) rfl) (⟨rfl, by omega, by decide⟩) ((show _ = x from hZ.2.2.2.2.2.2.1.1)) ?_
            refine g_ineg hX (dk DX12_settle 36 rfl) ?_
            refine g_c2V hX sX12_settle_66 (by decide) (Nat.le_of_ble_eq_true rfl) (rc0 rfl (MLt hM (by decide)) (MC hM)) (by decide) (by decide) (q_put hG hM (s := fr + cs2.length) (show _ = _ from hZ.2.2.2.1.1) (by omega)) ?_
            refine g_goto (tgt := 0) hX (dk DX12_settle 38 rfl) (by decide) ?_
            exact g_fgt (ih t.length (by simp only [List.length_cons] at hk; omega) t _ _ rfl (hZ.op hx) (by rw [← hv, hst])) ⟨rfl, rfl, trivial⟩
  exact g_fgt (loop0 ws.length ws cs I rfl hZ rfl) ⟨rfl, rfl, trivial⟩

set_option maxRecDepth 8000 in
set_option maxHeartbeats 4000000 in
theorem q_place {G : Gt} (hG : Gok G) {I : It} {h : Ht} (hM : HM h) {c : Int32} : Con G (1) 0 0 mX12_place [.ref 0, .int c] I h (rI (plA c) I h) := by
  refine con_intro (own := RX12) (lo0 := [some (.ref 0), some (.int c)]) hG rfl pl_X12 (Nat.le_of_ble_eq_true rfl) rfl (fun X hX => ?_)
  refine g_iload_1 hX (dk DX12_place 0 rfl) ?_
  refine g_tswitch (dt := 123) hX [(99, 116), (100, 123), (101, 123), (102, 123), (103, 123), (104, 123), (105, 108), (106, 123), (107, 110), (108, 123), (109, 123), (110, 123), (111, 123), (112, 123), (113, 123), (114, 112), (115, 123), (116, 123), (117, 123), (118, 114), (119, 120), (120, 123), (121, 118)] (dk DX12_place 1 rfl) (by decide +kernel) ?_
  refine ⟨fun hc1 => ?_, fun hc1n => ?_⟩
  · show GG _ _ _ _ _ _ _ _ _ _ _ _ _
    refine g_iconst (v := 4) hX (dk DX12_place 10 rfl) (by decide) ?_
    refine g_ireturn hX (dk DX12_place 11 rfl) rfl (rfl) (by decide) (by decide) ?_
    exact rI_of (by first | (unfold plA; (try first | rw [if_pos hc1] | rw [if_neg hc1] | rw [if_neg (not_not_intro hc1)]); first | done | rfl) | simp_all [plA]) rfl rfl
  refine ⟨fun hc2 => ?_, fun hc2n => ?_⟩
  · show GG _ _ _ _ _ _ _ _ _ _ _ _ _
    refine g_iconst (v := -1) hX (dk DX12_place 16 rfl) (by decide) ?_
    refine g_ireturn hX (dk DX12_place 17 rfl) rfl (rfl) (by decide) (by decide) ?_
    exact rI_of (by first | (unfold plA; (try first | rw [if_pos hc1n] | rw [if_neg hc1n] | rw [if_neg (not_not_intro hc1n)]); (try first | rw [if_pos hc2] | rw [if_neg hc2] | rw [if_neg (not_not_intro hc2)]); first | done | rfl) | simp_all [plA]) rfl rfl
  refine ⟨fun hc3 => ?_, fun hc3n => ?_⟩
  · show GG _ _ _ _ _ _ _ _ _ _ _ _ _
    refine g_iconst (v := -1) hX (dk DX12_place 16 rfl) (by decide) ?_
    refine g_ireturn hX (dk DX12_place 17 rfl) rfl (rfl) (by decide) (by decide) ?_
    exact rI_of (by first | (unfold plA; (try first | rw [if_pos hc1n] | rw [if_neg hc1n] | rw [if_neg (not_not_intro hc1n)]); (try first | rw [if_pos hc2n] | rw [if_neg hc2n] | rw [if_neg (not_not_intro hc2n)]); (try first | rw [if_pos hc3] | rw [if_neg hc3] | rw [if_neg (not_not_intro hc3)]); first | done | rfl) | simp_all [plA]) rfl rfl
  refine ⟨fun hc4 => ?_, fun hc4n => ?_⟩
  · show GG _ _ _ _ _ _ _ _ _ _ _ _ _
    refine g_iconst (v := -1) hX (dk DX12_place 16 rfl) (by decide) ?_
    refine g_ireturn hX (dk DX12_place 17 rfl) rfl (rfl) (by decide) (by decide) ?_
    exact rI_of (by first | (unfold plA; (try first | rw [if_pos hc1n] | rw [if_neg hc1n] | rw [if_neg (not_not_intro hc1n)]); (try first | rw [if_pos hc2n] | rw [if_neg hc2n] | rw [if_neg (not_not_intro hc2n)]); (try first | rw [if_pos hc3n] | rw [if_neg hc3n] | rw [if_neg (not_not_intro hc3n)]); (try first | rw [if_pos hc4] | rw [if_neg hc4] | rw [if_neg (not_not_intro hc4)]); first | done | rfl) | simp_all [plA]) rfl rfl
  refine ⟨fun hc5 => ?_, fun hc5n => ?_⟩
  · show GG _ _ _ _ _ _ _ _ _ _ _ _ _
    refine g_iconst (v := -1) hX (dk DX12_place 16 rfl) (by decide) ?_
    refine g_ireturn hX (dk DX12_place 17 rfl) rfl (rfl) (by decide) (by decide) ?_
    exact rI_of (by first | (unfold plA; (try first | rw [if_pos hc1n] | rw [if_neg hc1n] | rw [if_neg (not_not_intro hc1n)]); (try first | rw [if_pos hc2n] | rw [if_neg hc2n] | rw [if_neg (not_not_intro hc2n)]); (try first | rw [if_pos hc3n] | rw [if_neg hc3n] | rw [if_neg (not_not_intro hc3n)]); (try first | rw [if_pos hc4n] | rw [if_neg hc4n] | rw [if_neg (not_not_intro hc4n)]); (try first | rw [if_pos hc5] | rw [if_neg hc5] | rw [if_neg (not_not_intro hc5)]); first | done | rfl) | simp_all [plA]) rfl rfl
  refine ⟨fun hc6 => ?_, fun hc6n => ?_⟩
  · show GG _ _ _ _ _ _ _ _ _ _ _ _ _
    refine g_iconst (v := -1) hX (dk DX12_place 16 rfl) (by decide) ?_
    refine g_ireturn hX (dk DX12_place 17 rfl) rfl (rfl) (by decide) (by decide) ?_
    exact rI_of (by first | (unfold plA; (try first | rw [if_pos hc1n] | rw [if_neg hc1n] | rw [if_neg (not_not_intro hc1n)]); (try first | rw [if_pos hc2n] | rw [if_neg hc2n] | rw [if_neg (not_not_intro hc2n)]); (try first | rw [if_pos hc3n] | rw [if_neg hc3n] | rw [if_neg (not_not_intro hc3n)]); (try first | rw [if_pos hc4n] | rw [if_neg hc4n] | rw [if_neg (not_not_intro hc4n)]); (try first | rw [if_pos hc5n] | rw [if_neg hc5n] | rw [if_neg (not_not_intro hc5n)]); (try first | rw [if_pos hc6] | rw [if_neg hc6] | rw [if_neg (not_not_intro hc6)]); first | done | rfl) | simp_all [plA]) rfl rfl
  refine ⟨fun hc7 => ?_, fun hc7n => ?_⟩
  · show GG _ _ _ _ _ _ _ _ _ _ _ _ _
    refine g_iconst (v := 0) hX (dk DX12_place 2 rfl) (by decide) ?_
    refine g_ireturn hX (dk DX12_place 3 rfl) rfl (rfl) (by decide) (by decide) ?_
    exact rI_of (by first | (unfold plA; (try first | rw [if_pos hc1n] | rw [if_neg hc1n] | rw [if_neg (not_not_intro hc1n)]); (try first | rw [if_pos hc2n] | rw [if_neg hc2n] | rw [if_neg (not_not_intro hc2n)]); (try first | rw [if_pos hc3n] | rw [if_neg hc3n] | rw [if_neg (not_not_intro hc3n)]); (try first | rw [if_pos hc4n] | rw [if_neg hc4n] | rw [if_neg (not_not_intro hc4n)]); (try first | rw [if_pos hc5n] | rw [if_neg hc5n] | rw [if_neg (not_not_intro hc5n)]); (try first | rw [if_pos hc6n] | rw [if_neg hc6n] | rw [if_neg (not_not_intro hc6n)]); (try first | rw [if_pos hc7] | rw [if_neg hc7] | rw [if_neg (not_not_intro hc7)]); first | done | rfl) | simp_all [plA]) rfl rfl
  refine ⟨fun hc8 => ?_, fun hc8n => ?_⟩
  · show GG _ _ _ _ _ _ _ _ _ _ _ _ _
    refine g_iconst (v := -1) hX (dk DX12_place 16 rfl) (by decide) ?_
    refine g_ireturn hX (dk DX12_place 17 rfl) rfl (rfl) (by decide) (by decide) ?_
    exact rI_of (by first | (unfold plA; (try first | rw [if_pos hc1n] | rw [if_neg hc1n] | rw [if_neg (not_not_intro hc1n)]); (try first | rw [if_pos hc2n] | rw [if_neg hc2n] | rw [if_neg (not_not_intro hc2n)]); (try first | rw [if_pos hc3n] | rw [if_neg hc3n] | rw [if_neg (not_not_intro hc3n)]); (try first | rw [if_pos hc4n] | rw [if_neg hc4n] | rw [if_neg (not_not_intro hc4n)]); (try first | rw [if_pos hc5n] | rw [if_neg hc5n] | rw [if_neg (not_not_intro hc5n)]); (try first | rw [if_pos hc6n] | rw [if_neg hc6n] | rw [if_neg (not_not_intro hc6n)]); (try first | rw [if_pos hc7n] | rw [if_neg hc7n] | rw [if_neg (not_not_intro hc7n)]); (try first | rw [if_pos hc8] | rw [if_neg hc8] | rw [if_neg (not_not_intro hc8)]); first | done | rfl) | simp_all [plA]) rfl rfl
  refine ⟨fun hc9 => ?_, fun hc9n => ?_⟩
  · show GG _ _ _ _ _ _ _ _ _ _ _ _ _
    refine g_iconst (v := 1) hX (dk DX12_place 4 rfl) (by decide) ?_
    refine g_ireturn hX (dk DX12_place 5 rfl) rfl (rfl) (by decide) (by decide) ?_
    exact rI_of (by first | (unfold plA; (try first | rw [if_pos hc1n] | rw [if_neg hc1n] | rw [if_neg (not_not_intro hc1n)]); (try first | rw [if_pos hc2n] | rw [if_neg hc2n] | rw [if_neg (not_not_intro hc2n)]); (try first | rw [if_pos hc3n] | rw [if_neg hc3n] | rw [if_neg (not_not_intro hc3n)]); (try first | rw [if_pos hc4n] | rw [if_neg hc4n] | rw [if_neg (not_not_intro hc4n)]); (try first | rw [if_pos hc5n] | rw [if_neg hc5n] | rw [if_neg (not_not_intro hc5n)]); (try first | rw [if_pos hc6n] | rw [if_neg hc6n] | rw [if_neg (not_not_intro hc6n)]); (try first | rw [if_pos hc7n] | rw [if_neg hc7n] | rw [if_neg (not_not_intro hc7n)]); (try first | rw [if_pos hc8n] | rw [if_neg hc8n] | rw [if_neg (not_not_intro hc8n)]); (try first | rw [if_pos hc9] | rw [if_neg hc9] | rw [if_neg (not_not_intro hc9)]); first | done | rfl) | simp_all [plA]) rfl rfl
  refine ⟨fun hc10 => ?_, fun hc10n => ?_⟩
  · show GG _ _ _ _ _ _ _ _ _ _ _ _ _
    refine g_iconst (v := -1) hX (dk DX12_place 16 rfl) (by decide) ?_
    refine g_ireturn hX (dk DX12_place 17 rfl) rfl (rfl) (by decide) (by decide) ?_
    exact rI_of (by first | (unfold plA; (try first | rw [if_pos hc1n] | rw [if_neg hc1n] | rw [if_neg (not_not_intro hc1n)]); (try first | rw [if_pos hc2n] | rw [if_neg hc2n] | rw [if_neg (not_not_intro hc2n)]); (try first | rw [if_pos hc3n] | rw [if_neg hc3n] | rw [if_neg (not_not_intro hc3n)]); (try first | rw [if_pos hc4n] | rw [if_neg hc4n] | rw [if_neg (not_not_intro hc4n)]); (try first | rw [if_pos hc5n] | rw [if_neg hc5n] | rw [if_neg (not_not_intro hc5n)]); (try first | rw [if_pos hc6n] | rw [if_neg hc6n] | rw [if_neg (not_not_intro hc6n)]); (try first | rw [if_pos hc7n] | rw [if_neg hc7n] | rw [if_neg (not_not_intro hc7n)]); (try first | rw [if_pos hc8n] | rw [if_neg hc8n] | rw [if_neg (not_not_intro hc8n)]); (try first | rw [if_pos hc9n] | rw [if_neg hc9n] | rw [if_neg (not_not_intro hc9n)]); (try first | rw [if_pos hc10] | rw [if_neg hc10] | rw [if_neg (not_not_intro hc10)]); first | done | rfl) | simp_all [plA]) rfl rfl
  refine ⟨fun hc11 => ?_, fun hc11n => ?_⟩
  · show GG _ _ _ _ _ _ _ _ _ _ _ _ _
    refine g_iconst (v := -1) hX (dk DX12_place 16 rfl) (by decide) ?_
    refine g_ireturn hX (dk DX12_place 17 rfl) rfl (rfl) (by decide) (by decide) ?_
    exact rI_of (by first | (unfold plA; (try first | rw [if_pos hc1n] | rw [if_neg hc1n] | rw [if_neg (not_not_intro hc1n)]); (try first | rw [if_pos hc2n] | rw [if_neg hc2n] | rw [if_neg (not_not_intro hc2n)]); (try first | rw [if_pos hc3n] | rw [if_neg hc3n] | rw [if_neg (not_not_intro hc3n)]); (try first | rw [if_pos hc4n] | rw [if_neg hc4n] | rw [if_neg (not_not_intro hc4n)]); (try first | rw [if_pos hc5n] | rw [if_neg hc5n] | rw [if_neg (not_not_intro hc5n)]); (try first | rw [if_pos hc6n] | rw [if_neg hc6n] | rw [if_neg (not_not_intro hc6n)]); (try first | rw [if_pos hc7n] | rw [if_neg hc7n] | rw [if_neg (not_not_intro hc7n)]); (try first | rw [if_pos hc8n] | rw [if_neg hc8n] | rw [if_neg (not_not_intro hc8n)]); (try first | rw [if_pos hc9n] | rw [if_neg hc9n] | rw [if_neg (not_not_intro hc9n)]); (try first | rw [if_pos hc10n] | rw [if_neg hc10n] | rw [if_neg (not_not_intro hc10n)]); (try first | rw [if_pos hc11] | rw [if_neg hc11] | rw [if_neg (not_not_intro hc11)]); first | done | rfl) | simp_all [plA]) rfl rfl
  refine ⟨fun hc12 => ?_, fun hc12n => ?_⟩
  · show GG _ _ _ _ _ _ _ _ _ _ _ _ _
    refine g_iconst (v := -1) hX (dk DX12_place 16 rfl) (by decide) ?_
    refine g_ireturn hX (dk DX12_place 17 rfl) rfl (rfl) (by decide) (by decide) ?_
    exact rI_of (by first | (unfold plA; (try first | rw [if_pos hc1n] | rw [if_neg hc1n] | rw [if_neg (not_not_intro hc1n)]); (try first | rw [if_pos hc2n] | rw [if_neg hc2n] | rw [if_neg (not_not_intro hc2n)]); (try first | rw [if_pos hc3n] | rw [if_neg hc3n] | rw [if_neg (not_not_intro hc3n)]); (try first | rw [if_pos hc4n] | rw [if_neg hc4n] | rw [if_neg (not_not_intro hc4n)]); (try first | rw [if_pos hc5n] | rw [if_neg hc5n] | rw [if_neg (not_not_intro hc5n)]); (try first | rw [if_pos hc6n] | rw [if_neg hc6n] | rw [if_neg (not_not_intro hc6n)]); (try first | rw [if_pos hc7n] | rw [if_neg hc7n] | rw [if_neg (not_not_intro hc7n)]); (try first | rw [if_pos hc8n] | rw [if_neg hc8n] | rw [if_neg (not_not_intro hc8n)]); (try first | rw [if_pos hc9n] | rw [if_neg hc9n] | rw [if_neg (not_not_intro hc9n)]); (try first | rw [if_pos hc10n] | rw [if_neg hc10n] | rw [if_neg (not_not_intro hc10n)]); (try first | rw [if_pos hc11n] | rw [if_neg hc11n] | rw [if_neg (not_not_intro hc11n)]); (try first | rw [if_pos hc12] | rw [if_neg hc12] | rw [if_neg (not_not_intro hc12)]); first | done | rfl) | simp_all [plA]) rfl rfl
  refine ⟨fun hc13 => ?_, fun hc13n => ?_⟩
  · show GG _ _ _ _ _ _ _ _ _ _ _ _ _
    refine g_iconst (v := -1) hX (dk DX12_place 16 rfl) (by decide) ?_
    refine g_ireturn hX (dk DX12_place 17 rfl) rfl (rfl) (by decide) (by decide) ?_
    exact rI_of (by first | (unfold plA; (try first | rw [if_pos hc1n] | rw [if_neg hc1n] | rw [if_neg (not_not_intro hc1n)]); (try first | rw [if_pos hc2n] | rw [if_neg hc2n] | rw [if_neg (not_not_intro hc2n)]); (try first | rw [if_pos hc3n] | rw [if_neg hc3n] | rw [if_neg (not_not_intro hc3n)]); (try first | rw [if_pos hc4n] | rw [if_neg hc4n] | rw [if_neg (not_not_intro hc4n)]); (try first | rw [if_pos hc5n] | rw [if_neg hc5n] | rw [if_neg (not_not_intro hc5n)]); (try first | rw [if_pos hc6n] | rw [if_neg hc6n] | rw [if_neg (not_not_intro hc6n)]); (try first | rw [if_pos hc7n] | rw [if_neg hc7n] | rw [if_neg (not_not_intro hc7n)]); (try first | rw [if_pos hc8n] | rw [if_neg hc8n] | rw [if_neg (not_not_intro hc8n)]); (try first | rw [if_pos hc9n] | rw [if_neg hc9n] | rw [if_neg (not_not_intro hc9n)]); (try first | rw [if_pos hc10n] | rw [if_neg hc10n] | rw [if_neg (not_not_intro hc10n)]); (try first | rw [if_pos hc11n] | rw [if_neg hc11n] | rw [if_neg (not_not_intro hc11n)]); (try first | rw [if_pos hc12n] | rw [if_neg hc12n] | rw [if_neg (not_not_intro hc12n)]); (try first | rw [if_pos hc13] | rw [if_neg hc13] | rw [if_neg (not_not_intro hc13)]); first | done | rfl) | simp_all [plA]) rfl rfl
  refine ⟨fun hc14 => ?_, fun hc14n => ?_⟩
  · show GG _ _ _ _ _ _ _ _ _ _ _ _ _
    refine g_iconst (v := -1) hX (dk DX12_place 16 rfl) (by decide) ?_
    refine g_ireturn hX (dk DX12_place 17 rfl) rfl (rfl) (by decide) (by decide) ?_
    exact rI_of (by first | (unfold plA; (try first | rw [if_pos hc1n] | rw [if_neg hc1n] | rw [if_neg (not_not_intro hc1n)]); (try first | rw [if_pos hc2n] | rw [if_neg hc2n] | rw [if_neg (not_not_intro hc2n)]); (try first | rw [if_pos hc3n] | rw [if_neg hc3n] | rw [if_neg (not_not_intro hc3n)]); (try first | rw [if_pos hc4n] | rw [if_neg hc4n] | rw [if_neg (not_not_intro hc4n)]); (try first | rw [if_pos hc5n] | rw [if_neg hc5n] | rw [if_neg (not_not_intro hc5n)]); (try first | rw [if_pos hc6n] | rw [if_neg hc6n] | rw [if_neg (not_not_intro hc6n)]); (try first | rw [if_pos hc7n] | rw [if_neg hc7n] | rw [if_neg (not_not_intro hc7n)]); (try first | rw [if_pos hc8n] | rw [if_neg hc8n] | rw [if_neg (not_not_intro hc8n)]); (try first | rw [if_pos hc9n] | rw [if_neg hc9n] | rw [if_neg (not_not_intro hc9n)]); (try first | rw [if_pos hc10n] | rw [if_neg hc10n] | rw [if_neg (not_not_intro hc10n)]); (try first | rw [if_pos hc11n] | rw [if_neg hc11n] | rw [if_neg (not_not_intro hc11n)]); (try first | rw [if_pos hc12n] | rw [if_neg hc12n] | rw [if_neg (not_not_intro hc12n)]); (try first | rw [if_pos hc13n] | rw [if_neg hc13n] | rw [if_neg (not_not_intro hc13n)]); (try first | rw [if_pos hc14] | rw [if_neg hc14] | rw [if_neg (not_not_intro hc14)]); first | done | rfl) | simp_all [plA]) rfl rfl
  refine ⟨fun hc15 => ?_, fun hc15n => ?_⟩
  · show GG _ _ _ _ _ _ _ _ _ _ _ _ _
    refine g_iconst (v := -1) hX (dk DX12_place 16 rfl) (by decide) ?_
    refine g_ireturn hX (dk DX12_place 17 rfl) rfl (rfl) (by decide) (by decide) ?_
    exact rI_of (by first | (unfold plA; (try first | rw [if_pos hc1n] | rw [if_neg hc1n] | rw [if_neg (not_not_intro hc1n)]); (try first | rw [if_pos hc2n] | rw [if_neg hc2n] | rw [if_neg (not_not_intro hc2n)]); (try first | rw [if_pos hc3n] | rw [if_neg hc3n] | rw [if_neg (not_not_intro hc3n)]); (try first | rw [if_pos hc4n] | rw [if_neg hc4n] | rw [if_neg (not_not_intro hc4n)]); (try first | rw [if_pos hc5n] | rw [if_neg hc5n] | rw [if_neg (not_not_intro hc5n)]); (try first | rw [if_pos hc6n] | rw [if_neg hc6n] | rw [if_neg (not_not_intro hc6n)]); (try first | rw [if_pos hc7n] | rw [if_neg hc7n] | rw [if_neg (not_not_intro hc7n)]); (try first | rw [if_pos hc8n] | rw [if_neg hc8n] | rw [if_neg (not_not_intro hc8n)]); (try first | rw [if_pos hc9n] | rw [if_neg hc9n] | rw [if_neg (not_not_intro hc9n)]); (try first | rw [if_pos hc10n] | rw [if_neg hc10n] | rw [if_neg (not_not_intro hc10n)]); (try first | rw [if_pos hc11n] | rw [if_neg hc11n] | rw [if_neg (not_not_intro hc11n)]); (try first | rw [if_pos hc12n] | rw [if_neg hc12n] | rw [if_neg (not_not_intro hc12n)]); (try first | rw [if_pos hc13n] | rw [if_neg hc13n] | rw [if_neg (not_not_intro hc13n)]); (try first | rw [if_pos hc14n] | rw [if_neg hc14n] | rw [if_neg (not_not_intro hc14n)]); (try first | rw [if_pos hc15] | rw [if_neg hc15] | rw [if_neg (not_not_intro hc15)]); first | done | rfl) | simp_all [plA]) rfl rfl
  refine ⟨fun hc16 => ?_, fun hc16n => ?_⟩
  · show GG _ _ _ _ _ _ _ _ _ _ _ _ _
    refine g_iconst (v := 2) hX (dk DX12_place 6 rfl) (by decide) ?_
    refine g_ireturn hX (dk DX12_place 7 rfl) rfl (rfl) (by decide) (by decide) ?_
    exact rI_of (by first | (unfold plA; (try first | rw [if_pos hc1n] | rw [if_neg hc1n] | rw [if_neg (not_not_intro hc1n)]); (try first | rw [if_pos hc2n] | rw [if_neg hc2n] | rw [if_neg (not_not_intro hc2n)]); (try first | rw [if_pos hc3n] | rw [if_neg hc3n] | rw [if_neg (not_not_intro hc3n)]); (try first | rw [if_pos hc4n] | rw [if_neg hc4n] | rw [if_neg (not_not_intro hc4n)]); (try first | rw [if_pos hc5n] | rw [if_neg hc5n] | rw [if_neg (not_not_intro hc5n)]); (try first | rw [if_pos hc6n] | rw [if_neg hc6n] | rw [if_neg (not_not_intro hc6n)]); (try first | rw [if_pos hc7n] | rw [if_neg hc7n] | rw [if_neg (not_not_intro hc7n)]); (try first | rw [if_pos hc8n] | rw [if_neg hc8n] | rw [if_neg (not_not_intro hc8n)]); (try first | rw [if_pos hc9n] | rw [if_neg hc9n] | rw [if_neg (not_not_intro hc9n)]); (try first | rw [if_pos hc10n] | rw [if_neg hc10n] | rw [if_neg (not_not_intro hc10n)]); (try first | rw [if_pos hc11n] | rw [if_neg hc11n] | rw [if_neg (not_not_intro hc11n)]); (try first | rw [if_pos hc12n] | rw [if_neg hc12n] | rw [if_neg (not_not_intro hc12n)]); (try first | rw [if_pos hc13n] | rw [if_neg hc13n] | rw [if_neg (not_not_intro hc13n)]); (try first | rw [if_pos hc14n] | rw [if_neg hc14n] | rw [if_neg (not_not_intro hc14n)]); (try first | rw [if_pos hc15n] | rw [if_neg hc15n] | rw [if_neg (not_not_intro hc15n)]); (try first | rw [if_pos hc16] | rw [if_neg hc16] | rw [if_neg (not_not_intro hc16)]); first | done | rfl) | simp_all [plA]) rfl rfl
  refine ⟨fun hc17 => ?_, fun hc17n => ?_⟩
  · show GG _ _ _ _ _ _ _ _ _ _ _ _ _
    refine g_iconst (v := -1) hX (dk DX12_place 16 rfl) (by decide) ?_
    refine g_ireturn hX (dk DX12_place 17 rfl) rfl (rfl) (by decide) (by decide) ?_
    exact rI_of (by first | (unfold plA; (try first | rw [if_pos hc1n] | rw [if_neg hc1n] | rw [if_neg (not_not_intro hc1n)]); (try first | rw [if_pos hc2n] | rw [if_neg hc2n] | rw [if_neg (not_not_intro hc2n)]); (try first | rw [if_pos hc3n] | rw [if_neg hc3n] | rw [if_neg (not_not_intro hc3n)]); (try first | rw [if_pos hc4n] | rw [if_neg hc4n] | rw [if_neg (not_not_intro hc4n)]); (try first | rw [if_pos hc5n] | rw [if_neg hc5n] | rw [if_neg (not_not_intro hc5n)]); (try first | rw [if_pos hc6n] | rw [if_neg hc6n] | rw [if_neg (not_not_intro hc6n)]); (try first | rw [if_pos hc7n] | rw [if_neg hc7n] | rw [if_neg (not_not_intro hc7n)]); (try first | rw [if_pos hc8n] | rw [if_neg hc8n] | rw [if_neg (not_not_intro hc8n)]); (try first | rw [if_pos hc9n] | rw [if_neg hc9n] | rw [if_neg (not_not_intro hc9n)]); (try first | rw [if_pos hc10n] | rw [if_neg hc10n] | rw [if_neg (not_not_intro hc10n)]); (try first | rw [if_pos hc11n] | rw [if_neg hc11n] | rw [if_neg (not_not_intro hc11n)]); (try first | rw [if_pos hc12n] | rw [if_neg hc12n] | rw [if_neg (not_not_intro hc12n)]); (try first | rw [if_pos hc13n] | rw [if_neg hc13n] | rw [if_neg (not_not_intro hc13n)]); (try first | rw [if_pos hc14n] | rw [if_neg hc14n] | rw [if_neg (not_not_intro hc14n)]); (try first | rw [if_pos hc15n] | rw [if_neg hc15n] | rw [if_neg (not_not_intro hc15n)]); (try first | rw [if_pos hc16n] | rw [if_neg hc16n] | rw [if_neg (not_not_intro hc16n)]); (try first | rw [if_pos hc17] | rw [if_neg hc17] | rw [if_neg (not_not_intro hc17)]); first | done | rfl) | simp_all [plA]) rfl rfl
  refine ⟨fun hc18 => ?_, fun hc18n => ?_⟩
  · show GG _ _ _ _ _ _ _ _ _ _ _ _ _
    refine g_iconst (v := -1) hX (dk DX12_place 16 rfl) (by decide) ?_
    refine g_ireturn hX (dk DX12_place 17 rfl) rfl (rfl) (by decide) (by decide) ?_
    exact rI_of (by first | (unfold plA; (try first | rw [if_pos hc1n] | rw [if_neg hc1n] | rw [if_neg (not_not_intro hc1n)]); (try first | rw [if_pos hc2n] | rw [if_neg hc2n] | rw [if_neg (not_not_intro hc2n)]); (try first | rw [if_pos hc3n] | rw [if_neg hc3n] | rw [if_neg (not_not_intro hc3n)]); (try first | rw [if_pos hc4n] | rw [if_neg hc4n] | rw [if_neg (not_not_intro hc4n)]); (try first | rw [if_pos hc5n] | rw [if_neg hc5n] | rw [if_neg (not_not_intro hc5n)]); (try first | rw [if_pos hc6n] | rw [if_neg hc6n] | rw [if_neg (not_not_intro hc6n)]); (try first | rw [if_pos hc7n] | rw [if_neg hc7n] | rw [if_neg (not_not_intro hc7n)]); (try first | rw [if_pos hc8n] | rw [if_neg hc8n] | rw [if_neg (not_not_intro hc8n)]); (try first | rw [if_pos hc9n] | rw [if_neg hc9n] | rw [if_neg (not_not_intro hc9n)]); (try first | rw [if_pos hc10n] | rw [if_neg hc10n] | rw [if_neg (not_not_intro hc10n)]); (try first | rw [if_pos hc11n] | rw [if_neg hc11n] | rw [if_neg (not_not_intro hc11n)]); (try first | rw [if_pos hc12n] | rw [if_neg hc12n] | rw [if_neg (not_not_intro hc12n)]); (try first | rw [if_pos hc13n] | rw [if_neg hc13n] | rw [if_neg (not_not_intro hc13n)]); (try first | rw [if_pos hc14n] | rw [if_neg hc14n] | rw [if_neg (not_not_intro hc14n)]); (try first | rw [if_pos hc15n] | rw [if_neg hc15n] | rw [if_neg (not_not_intro hc15n)]); (try first | rw [if_pos hc16n] | rw [if_neg hc16n] | rw [if_neg (not_not_intro hc16n)]); (try first | rw [if_pos hc17n] | rw [if_neg hc17n] | rw [if_neg (not_not_intro hc17n)]); (try first | rw [if_pos hc18] | rw [if_neg hc18] | rw [if_neg (not_not_intro hc18)]); first | done | rfl) | simp_all [plA]) rfl rfl
  refine ⟨fun hc19 => ?_, fun hc19n => ?_⟩
  · show GG _ _ _ _ _ _ _ _ _ _ _ _ _
    refine g_iconst (v := -1) hX (dk DX12_place 16 rfl) (by decide) ?_
    refine g_ireturn hX (dk DX12_place 17 rfl) rfl (rfl) (by decide) (by decide) ?_
    exact rI_of (by first | (unfold plA; (try first | rw [if_pos hc1n] | rw [if_neg hc1n] | rw [if_neg (not_not_intro hc1n)]); (try first | rw [if_pos hc2n] | rw [if_neg hc2n] | rw [if_neg (not_not_intro hc2n)]); (try first | rw [if_pos hc3n] | rw [if_neg hc3n] | rw [if_neg (not_not_intro hc3n)]); (try first | rw [if_pos hc4n] | rw [if_neg hc4n] | rw [if_neg (not_not_intro hc4n)]); (try first | rw [if_pos hc5n] | rw [if_neg hc5n] | rw [if_neg (not_not_intro hc5n)]); (try first | rw [if_pos hc6n] | rw [if_neg hc6n] | rw [if_neg (not_not_intro hc6n)]); (try first | rw [if_pos hc7n] | rw [if_neg hc7n] | rw [if_neg (not_not_intro hc7n)]); (try first | rw [if_pos hc8n] | rw [if_neg hc8n] | rw [if_neg (not_not_intro hc8n)]); (try first | rw [if_pos hc9n] | rw [if_neg hc9n] | rw [if_neg (not_not_intro hc9n)]); (try first | rw [if_pos hc10n] | rw [if_neg hc10n] | rw [if_neg (not_not_intro hc10n)]); (try first | rw [if_pos hc11n] | rw [if_neg hc11n] | rw [if_neg (not_not_intro hc11n)]); (try first | rw [if_pos hc12n] | rw [if_neg hc12n] | rw [if_neg (not_not_intro hc12n)]); (try first | rw [if_pos hc13n] | rw [if_neg hc13n] | rw [if_neg (not_not_intro hc13n)]); (try first | rw [if_pos hc14n] | rw [if_neg hc14n] | rw [if_neg (not_not_intro hc14n)]); (try first | rw [if_pos hc15n] | rw [if_neg hc15n] | rw [if_neg (not_not_intro hc15n)]); (try first | rw [if_pos hc16n] | rw [if_neg hc16n] | rw [if_neg (not_not_intro hc16n)]); (try first | rw [if_pos hc17n] | rw [if_neg hc17n] | rw [if_neg (not_not_intro hc17n)]); (try first | rw [if_pos hc18n] | rw [if_neg hc18n] | rw [if_neg (not_not_intro hc18n)]); (try first | rw [if_pos hc19] | rw [if_neg hc19] | rw [if_neg (not_not_intro hc19)]); first | done | rfl) | simp_all [plA]) rfl rfl
  refine ⟨fun hc20 => ?_, fun hc20n => ?_⟩
  · show GG _ _ _ _ _ _ _ _ _ _ _ _ _
    refine g_iconst (v := 3) hX (dk DX12_place 8 rfl) (by decide) ?_
    refine g_ireturn hX (dk DX12_place 9 rfl) rfl (rfl) (by decide) (by decide) ?_
    exact rI_of (by first | (unfold plA; (try first | rw [if_pos hc1n] | rw [if_neg hc1n] | rw [if_neg (not_not_intro hc1n)]); (try first | rw [if_pos hc2n] | rw [if_neg hc2n] | rw [if_neg (not_not_intro hc2n)]); (try first | rw [if_pos hc3n] | rw [if_neg hc3n] | rw [if_neg (not_not_intro hc3n)]); (try first | rw [if_pos hc4n] | rw [if_neg hc4n] | rw [if_neg (not_not_intro hc4n)]); (try first | rw [if_pos hc5n] | rw [if_neg hc5n] | rw [if_neg (not_not_intro hc5n)]); (try first | rw [if_pos hc6n] | rw [if_neg hc6n] | rw [if_neg (not_not_intro hc6n)]); (try first | rw [if_pos hc7n] | rw [if_neg hc7n] | rw [if_neg (not_not_intro hc7n)]); (try first | rw [if_pos hc8n] | rw [if_neg hc8n] | rw [if_neg (not_not_intro hc8n)]); (try first | rw [if_pos hc9n] | rw [if_neg hc9n] | rw [if_neg (not_not_intro hc9n)]); (try first | rw [if_pos hc10n] | rw [if_neg hc10n] | rw [if_neg (not_not_intro hc10n)]); (try first | rw [if_pos hc11n] | rw [if_neg hc11n] | rw [if_neg (not_not_intro hc11n)]); (try first | rw [if_pos hc12n] | rw [if_neg hc12n] | rw [if_neg (not_not_intro hc12n)]); (try first | rw [if_pos hc13n] | rw [if_neg hc13n] | rw [if_neg (not_not_intro hc13n)]); (try first | rw [if_pos hc14n] | rw [if_neg hc14n] | rw [if_neg (not_not_intro hc14n)]); (try first | rw [if_pos hc15n] | rw [if_neg hc15n] | rw [if_neg (not_not_intro hc15n)]); (try first | rw [if_pos hc16n] | rw [if_neg hc16n] | rw [if_neg (not_not_intro hc16n)]); (try first | rw [if_pos hc17n] | rw [if_neg hc17n] | rw [if_neg (not_not_intro hc17n)]); (try first | rw [if_pos hc18n] | rw [if_neg hc18n] | rw [if_neg (not_not_intro hc18n)]); (try first | rw [if_pos hc19n] | rw [if_neg hc19n] | rw [if_neg (not_not_intro hc19n)]); (try first | rw [if_pos hc20] | rw [if_neg hc20] | rw [if_neg (not_not_intro hc20)]); first | done | rfl) | simp_all [plA]) rfl rfl
  refine ⟨fun hc21 => ?_, fun hc21n => ?_⟩
  · show GG _ _ _ _ _ _ _ _ _ _ _ _ _
    refine g_bipush (v := 6) hX (dk DX12_place 14 rfl) (by decide) ?_
    refine g_ireturn hX (dk DX12_place 15 rfl) rfl (rfl) (by decide) (by decide) ?_
    exact rI_of (by first | (unfold plA; (try first | rw [if_pos hc1n] | rw [if_neg hc1n] | rw [if_neg (not_not_intro hc1n)]); (try first | rw [if_pos hc2n] | rw [if_neg hc2n] | rw [if_neg (not_not_intro hc2n)]); (try first | rw [if_pos hc3n] | rw [if_neg hc3n] | rw [if_neg (not_not_intro hc3n)]); (try first | rw [if_pos hc4n] | rw [if_neg hc4n] | rw [if_neg (not_not_intro hc4n)]); (try first | rw [if_pos hc5n] | rw [if_neg hc5n] | rw [if_neg (not_not_intro hc5n)]); (try first | rw [if_pos hc6n] | rw [if_neg hc6n] | rw [if_neg (not_not_intro hc6n)]); (try first | rw [if_pos hc7n] | rw [if_neg hc7n] | rw [if_neg (not_not_intro hc7n)]); (try first | rw [if_pos hc8n] | rw [if_neg hc8n] | rw [if_neg (not_not_intro hc8n)]); (try first | rw [if_pos hc9n] | rw [if_neg hc9n] | rw [if_neg (not_not_intro hc9n)]); (try first | rw [if_pos hc10n] | rw [if_neg hc10n] | rw [if_neg (not_not_intro hc10n)]); (try first | rw [if_pos hc11n] | rw [if_neg hc11n] | rw [if_neg (not_not_intro hc11n)]); (try first | rw [if_pos hc12n] | rw [if_neg hc12n] | rw [if_neg (not_not_intro hc12n)]); (try first | rw [if_pos hc13n] | rw [if_neg hc13n] | rw [if_neg (not_not_intro hc13n)]); (try first | rw [if_pos hc14n] | rw [if_neg hc14n] | rw [if_neg (not_not_intro hc14n)]); (try first | rw [if_pos hc15n] | rw [if_neg hc15n] | rw [if_neg (not_not_intro hc15n)]); (try first | rw [if_pos hc16n] | rw [if_neg hc16n] | rw [if_neg (not_not_intro hc16n)]); (try first | rw [if_pos hc17n] | rw [if_neg hc17n] | rw [if_neg (not_not_intro hc17n)]); (try first | rw [if_pos hc18n] | rw [if_neg hc18n] | rw [if_neg (not_not_intro hc18n)]); (try first | rw [if_pos hc19n] | rw [if_neg hc19n] | rw [if_neg (not_not_intro hc19n)]); (try first | rw [if_pos hc20n] | rw [if_neg hc20n] | rw [if_neg (not_not_intro hc20n)]); (try first | rw [if_pos hc21] | rw [if_neg hc21] | rw [if_neg (not_not_intro hc21)]); first | done | rfl) | simp_all [plA]) rfl rfl
  refine ⟨fun hc22 => ?_, fun hc22n => ?_⟩
  · show GG _ _ _ _ _ _ _ _ _ _ _ _ _
    refine g_iconst (v := -1) hX (dk DX12_place 16 rfl) (by decide) ?_
    refine g_ireturn hX (dk DX12_place 17 rfl) rfl (rfl) (by decide) (by decide) ?_
    exact rI_of (by first | (unfold plA; (try first | rw [if_pos hc1n] | rw [if_neg hc1n] | rw [if_neg (not_not_intro hc1n)]); (try first | rw [if_pos hc2n] | rw [if_neg hc2n] | rw [if_neg (not_not_intro hc2n)]); (try first | rw [if_pos hc3n] | rw [if_neg hc3n] | rw [if_neg (not_not_intro hc3n)]); (try first | rw [if_pos hc4n] | rw [if_neg hc4n] | rw [if_neg (not_not_intro hc4n)]); (try first | rw [if_pos hc5n] | rw [if_neg hc5n] | rw [if_neg (not_not_intro hc5n)]); (try first | rw [if_pos hc6n] | rw [if_neg hc6n] | rw [if_neg (not_not_intro hc6n)]); (try first | rw [if_pos hc7n] | rw [if_neg hc7n] | rw [if_neg (not_not_intro hc7n)]); (try first | rw [if_pos hc8n] | rw [if_neg hc8n] | rw [if_neg (not_not_intro hc8n)]); (try first | rw [if_pos hc9n] | rw [if_neg hc9n] | rw [if_neg (not_not_intro hc9n)]); (try first | rw [if_pos hc10n] | rw [if_neg hc10n] | rw [if_neg (not_not_intro hc10n)]); (try first | rw [if_pos hc11n] | rw [if_neg hc11n] | rw [if_neg (not_not_intro hc11n)]); (try first | rw [if_pos hc12n] | rw [if_neg hc12n] | rw [if_neg (not_not_intro hc12n)]); (try first | rw [if_pos hc13n] | rw [if_neg hc13n] | rw [if_neg (not_not_intro hc13n)]); (try first | rw [if_pos hc14n] | rw [if_neg hc14n] | rw [if_neg (not_not_intro hc14n)]); (try first | rw [if_pos hc15n] | rw [if_neg hc15n] | rw [if_neg (not_not_intro hc15n)]); (try first | rw [if_pos hc16n] | rw [if_neg hc16n] | rw [if_neg (not_not_intro hc16n)]); (try first | rw [if_pos hc17n] | rw [if_neg hc17n] | rw [if_neg (not_not_intro hc17n)]); (try first | rw [if_pos hc18n] | rw [if_neg hc18n] | rw [if_neg (not_not_intro hc18n)]); (try first | rw [if_pos hc19n] | rw [if_neg hc19n] | rw [if_neg (not_not_intro hc19n)]); (try first | rw [if_pos hc20n] | rw [if_neg hc20n] | rw [if_neg (not_not_intro hc20n)]); (try first | rw [if_pos hc21n] | rw [if_neg hc21n] | rw [if_neg (not_not_intro hc21n)]); (try first | rw [if_pos hc22] | rw [if_neg hc22] | rw [if_neg (not_not_intro hc22)]); first | done | rfl) | simp_all [plA]) rfl rfl
  refine ⟨fun hc23 => ?_, fun hc23n => ?_⟩
  · show GG _ _ _ _ _ _ _ _ _ _ _ _ _
    refine g_iconst (v := 5) hX (dk DX12_place 12 rfl) (by decide) ?_
    refine g_ireturn hX (dk DX12_place 13 rfl) rfl (rfl) (by decide) (by decide) ?_
    exact rI_of (by first | (unfold plA; (try first | rw [if_pos hc1n] | rw [if_neg hc1n] | rw [if_neg (not_not_intro hc1n)]); (try first | rw [if_pos hc2n] | rw [if_neg hc2n] | rw [if_neg (not_not_intro hc2n)]); (try first | rw [if_pos hc3n] | rw [if_neg hc3n] | rw [if_neg (not_not_intro hc3n)]); (try first | rw [if_pos hc4n] | rw [if_neg hc4n] | rw [if_neg (not_not_intro hc4n)]); (try first | rw [if_pos hc5n] | rw [if_neg hc5n] | rw [if_neg (not_not_intro hc5n)]); (try first | rw [if_pos hc6n] | rw [if_neg hc6n] | rw [if_neg (not_not_intro hc6n)]); (try first | rw [if_pos hc7n] | rw [if_neg hc7n] | rw [if_neg (not_not_intro hc7n)]); (try first | rw [if_pos hc8n] | rw [if_neg hc8n] | rw [if_neg (not_not_intro hc8n)]); (try first | rw [if_pos hc9n] | rw [if_neg hc9n] | rw [if_neg (not_not_intro hc9n)]); (try first | rw [if_pos hc10n] | rw [if_neg hc10n] | rw [if_neg (not_not_intro hc10n)]); (try first | rw [if_pos hc11n] | rw [if_neg hc11n] | rw [if_neg (not_not_intro hc11n)]); (try first | rw [if_pos hc12n] | rw [if_neg hc12n] | rw [if_neg (not_not_intro hc12n)]); (try first | rw [if_pos hc13n] | rw [if_neg hc13n] | rw [if_neg (not_not_intro hc13n)]); (try first | rw [if_pos hc14n] | rw [if_neg hc14n] | rw [if_neg (not_not_intro hc14n)]); (try first | rw [if_pos hc15n] | rw [if_neg hc15n] | rw [if_neg (not_not_intro hc15n)]); (try first | rw [if_pos hc16n] | rw [if_neg hc16n] | rw [if_neg (not_not_intro hc16n)]); (try first | rw [if_pos hc17n] | rw [if_neg hc17n] | rw [if_neg (not_not_intro hc17n)]); (try first | rw [if_pos hc18n] | rw [if_neg hc18n] | rw [if_neg (not_not_intro hc18n)]); (try first | rw [if_pos hc19n] | rw [if_neg hc19n] | rw [if_neg (not_not_intro hc19n)]); (try first | rw [if_pos hc20n] | rw [if_neg hc20n] | rw [if_neg (not_not_intro hc20n)]); (try first | rw [if_pos hc21n] | rw [if_neg hc21n] | rw [if_neg (not_not_intro hc21n)]); (try first | rw [if_pos hc22n] | rw [if_neg hc22n] | rw [if_neg (not_not_intro hc22n)]); (try first | rw [if_pos hc23] | rw [if_neg hc23] | rw [if_neg (not_not_intro hc23)]); first | done | rfl) | simp_all [plA]) rfl rfl
  show GG _ _ _ _ _ _ _ _ _ _ _ _ _
  refine g_iconst (v := -1) hX (dk DX12_place 16 rfl) (by decide) ?_
  refine g_ireturn hX (dk DX12_place 17 rfl) rfl (rfl) (by decide) (by decide) ?_
  exact rI_of (by first | (unfold plA; (try first | rw [if_pos hc1n] | rw [if_neg hc1n] | rw [if_neg (not_not_intro hc1n)]); (try first | rw [if_pos hc2n] | rw [if_neg hc2n] | rw [if_neg (not_not_intro hc2n)]); (try first | rw [if_pos hc3n] | rw [if_neg hc3n] | rw [if_neg (not_not_intro hc3n)]); (try first | rw [if_pos hc4n] | rw [if_neg hc4n] | rw [if_neg (not_not_intro hc4n)]); (try first | rw [if_pos hc5n] | rw [if_neg hc5n] | rw [if_neg (not_not_intro hc5n)]); (try first | rw [if_pos hc6n] | rw [if_neg hc6n] | rw [if_neg (not_not_intro hc6n)]); (try first | rw [if_pos hc7n] | rw [if_neg hc7n] | rw [if_neg (not_not_intro hc7n)]); (try first | rw [if_pos hc8n] | rw [if_neg hc8n] | rw [if_neg (not_not_intro hc8n)]); (try first | rw [if_pos hc9n] | rw [if_neg hc9n] | rw [if_neg (not_not_intro hc9n)]); (try first | rw [if_pos hc10n] | rw [if_neg hc10n] | rw [if_neg (not_not_intro hc10n)]); (try first | rw [if_pos hc11n] | rw [if_neg hc11n] | rw [if_neg (not_not_intro hc11n)]); (try first | rw [if_pos hc12n] | rw [if_neg hc12n] | rw [if_neg (not_not_intro hc12n)]); (try first | rw [if_pos hc13n] | rw [if_neg hc13n] | rw [if_neg (not_not_intro hc13n)]); (try first | rw [if_pos hc14n] | rw [if_neg hc14n] | rw [if_neg (not_not_intro hc14n)]); (try first | rw [if_pos hc15n] | rw [if_neg hc15n] | rw [if_neg (not_not_intro hc15n)]); (try first | rw [if_pos hc16n] | rw [if_neg hc16n] | rw [if_neg (not_not_intro hc16n)]); (try first | rw [if_pos hc17n] | rw [if_neg hc17n] | rw [if_neg (not_not_intro hc17n)]); (try first | rw [if_pos hc18n] | rw [if_neg hc18n] | rw [if_neg (not_not_intro hc18n)]); (try first | rw [if_pos hc19n] | rw [if_neg hc19n] | rw [if_neg (not_not_intro hc19n)]); (try first | rw [if_pos hc20n] | rw [if_neg hc20n] | rw [if_neg (not_not_intro hc20n)]); (try first | rw [if_pos hc21n] | rw [if_neg hc21n] | rw [if_neg (not_not_intro hc21n)]); (try first | rw [if_pos hc22n] | rw [if_neg hc22n] | rw [if_neg (not_not_intro hc22n)]); (try first | rw [if_pos hc23n] | rw [if_neg hc23n] | rw [if_neg (not_not_intro hc23n)]); first | done | rfl) | simp_all [plA]) rfl rfl
end
section
set_option maxRecDepth 8000 in
set_option maxHeartbeats 4000000 in
theorem q_takesTest {G : Gt} (hG : Gok G) {I : It} {h : Ht} (hM : HM h) {p c fr : Nat} {tx : Nat → Int32} {n : Nat} {I0 : It} {a : Nat} {cs ws : List Int32} (hp : p < 6) (hZ : MZ p c fr tx n I0 I a cs ws)  : Con G (4) 0 0 mX12_takesTest [.ref 0] I h (qI (fun v J h2 => h2 = h ∧ v = bI ((tsA tx n a).1 = true) ∧ MF p c fr tx n I0 J (tsA tx n a).2.1 ∧ ((tsA tx n a).1 = true → MZ p c fr tx n I0 J (tsA tx n a).2.1 (whA ws (cs ++ [(tsA tx n a).2.2])).1 (whA ws (cs ++ [(tsA tx n a).2.2])).2))) := by
  refine con_intro (own := RX12) (lo0 := [some (.ref 0), none, none]) hG rfl pl_X12 (Nat.le_of_ble_eq_true rfl) rfl (fun X hX => ?_)
  obtain ⟨l1, l2, l3, l4, l5⟩ := hZ.lt
  refine g_aload_0 hX (dk DX12_takesTest 0 rfl) ?_
  refine g_aload_0 hX (dk DX12_takesTest 1 rfl) ?_
  refine g_c1I hX sX12_takesTest_2 (by decide) (Nat.le_of_ble_eq_true rfl) (rc0 rfl (MLt hM (by decide)) (MC hM)) (by decide) (by decide) (q_next hG hM hZ.2.1 hZ.2.2.1) ?_
  refine g_c2I hX sX12_takesTest_5 (by decide) (Nat.le_of_ble_eq_true rfl) (rc0 rfl (MLt hM (by decide)) (MC hM)) (by decide) (by decide) (q_place hG hM) ?_
  refine g_istore_1 hX (dk DX12_takesTest 4 rfl) (by decide) rfl ?_
  refine g_iload_1 hX (dk DX12_takesTest 5 rfl) ?_
  refine g_if_ge (tgt := 15) hX (dk DX12_takesTest 6 rfl) (by decide) (fun hc1 => ?_) (fun hc1 => ?_)
  · have hlt := pl_lt hc1
    refine g_aload_0 hX (dk DX12_takesTest 9 rfl) ?_
    refine g_dup hX (dk DX12_takesTest 10 rfl) rfl ?_
    refine g_getIv hX (dk DX12_takesTest 11 rfl) KX12 fX12_65 (by decide) rfl (MLt hM (by decide)) (MC hM) (hZ.2.2.1.1) ?_
    refine g_iconst (v := 1) hX (dk DX12_takesTest 12 rfl) (by decide) ?_
    refine g_iadd hX (dk DX12_takesTest 13 rfl) ?_
    refine g_nmI (nI (a + 1)) (nI_1 a) ?_
    refine g_putI hX (dk DX12_takesTest 14 rfl) KX12 fX12_65 (by decide) rfl (MLt hM (by decide)) (MC hM) (Or.inl rfl) (rfl) (rfl) ?_
    refine g_aload_0 hX (dk DX12_takesTest 15 rfl) ?_
    refine g_c1I hX sX12_takesTest_26 (by decide) (Nat.le_of_ble_eq_true rfl) (rc0 rfl (MLt hM (by decide)) (MC hM)) (by decide) (by decide) (q_next hG hM hZ.2.1.w (AT.w (b := a + 1) (by omega))) ?_
    refine g_istore_2 hX (dk DX12_takesTest 17 rfl) (by decide) rfl ?_
    refine g_aload_0 hX (dk DX12_takesTest 18 rfl) ?_
    refine g_iload_2 hX (dk DX12_takesTest 19 rfl) ?_
    refine g_bipush (v := 60) hX (dk DX12_takesTest 20 rfl) (by decide) ?_
    refine g_bipush (v := 62) hX (dk DX12_takesTest 21 rfl) (by decide) ?_
    refine g_c4I hX sX12_takesTest_36 (by decide) (Nat.le_of_ble_eq_true rfl) (rc0 rfl (MLt hM (by decide)) (MC hM)) (by decide) (by decide) (c_X12_in hG) ?_
    refine g_ifb_ne (tgt := 44) hX (dk DX12_takesTest 23 rfl) (by decide) (fun hc2 => ?_) (fun hc2 => ?_)
    · have hr2 := hc2
      have hlt2 := in_lt hc2
      refine g_aload_0 hX (dk DX12_takesTest 26 rfl) ?_
      refine g_dup hX (dk DX12_takesTest 27 rfl) rfl ?_
      refine g_getIv hX (dk DX12_takesTest 28 rfl) KX12 fX12_65 (by decide) rfl (MLt hM (by decide)) (MC hM) ((show _ = nI (a + 1) from rfl)) ?_
      refine g_iconst (v := 1) hX (dk DX12_takesTest 29 rfl) (by decide) ?_
      refine g_iadd hX (dk DX12_takesTest 30 rfl) ?_
      refine g_nmI (nI (a + 2)) (nI_1 (a + 1)) ?_
      refine g_putI hX (dk DX12_takesTest 31 rfl) KX12 fX12_65 (by decide) rfl (MLt hM (by decide)) (MC hM) (Or.inl rfl) (rfl) (rfl) ?_
      rw [up_up]
      refine g_aload_0 hX (dk DX12_takesTest 32 rfl) ?_
      refine g_c1q hX sX12_takesTest_55 (by decide) (Nat.le_of_ble_eq_true rfl) (rc0 rfl (MLt hM (by decide)) (MC hM)) (by decide) (by decide) (q_takesNumber hG hM (a := a + 2) hZ.2.1.w (AT.w (by omega))) ?_
      rintro v J9 h9 ⟨rfl, rfl, rfl⟩
      refine g_ifb_ne (tgt := 63) hX (dk DX12_takesTest 34 rfl) (by decide) (fun hc3 => ?_) (fun hc3 => ?_)
      · have hd := hc3
        rw [if_pos hd, W2_w, W2_c]
        have hnu := nuA_le (X := tx) (n := n) (a := a + 2) (by omega)
        have hng := nuA_gt hd
        refine g_aload_0 hX (dk DX12_takesTest 37 rfl) ?_
        refine g_sipush (v := 1000) hX (dk DX12_takesTest 38 rfl) (by decide) ?_
        refine g_iload_1 hX (dk DX12_takesTest 39 rfl) ?_
        refine g_imul hX (dk DX12_takesTest 40 rfl) ?_
        refine g_bipush (v := 100) hX (dk DX12_takesTest 41 rfl) (by decide) ?_
        refine g_iload_2 hX (dk DX12_takesTest 42 rfl) ?_
        refine g_bipush (v := 60) hX (dk DX12_takesTest 43 rfl) (by decide) ?_
        refine g_isub hX (dk DX12_takesTest 44 rfl) ?_
        refine g_imul hX (dk DX12_takesTest 45 rfl) ?_
        refine g_iadd hX (dk DX12_takesTest 46 rfl) ?_
        refine g_aload_0 hX (dk DX12_takesTest 47 rfl) ?_
        refine g_getIv hX (dk DX12_takesTest 48 rfl) KX12 fX12_68 (by decide) rfl (MLt hM (by decide)) (MC hM) ((show _ = nvA tx n (a + 2) from rfl)) ?_
        refine g_iadd hX (dk DX12_takesTest 49 rfl) ?_
        refine g_c2V hX sX12_takesTest_82 (by decide) (Nat.le_of_ble_eq_true rfl) (rc0 rfl (MLt hM (by decide)) (MC hM)) (by decide) (by decide) (q_put hG hM (s := fr + cs.length) (show _ = _ from hZ.2.2.2.1.1) (by omega)) ?_
        refine g_aload_0 hX (dk DX12_takesTest 51 rfl) ?_
        refine g_c1v hX sX12_takesTest_86 (by decide) (Nat.le_of_ble_eq_true rfl) (rc0 rfl (MLt hM (by decide)) (MC hM)) (by decide) (by decide) (q_whole hG hM hp (hZ.dg.code (b := nuA tx n (a + 2)) (by omega) hnu)) ?_
        rintro J8 _ ⟨rfl, hZ8⟩
        refine g_iconst (v := 1) hX (dk DX12_takesTest 53 rfl) (by decide) ?_
        refine g_ireturn hX (dk DX12_takesTest 54 rfl) rfl (by decide) (by decide) (by decide) ?_
        have e : tsA tx n a = (true, nuA tx n (a + 2), 1000 * plA (nxA tx n a) + 100 * (nxA tx n (a + 1) - 60) + nvA tx n (a + 2)) := by unfold tsA; rw [if_neg (Int32.not_lt.mpr (by assumption)), if_neg (not_not_intro hr2), if_neg (not_not_intro hd)]
        rw [e]
        exact qI_of ⟨rfl, rfl, hZ8.mf, fun _ => hZ8⟩
      · refine g_iconst (v := 0) hX (dk DX12_takesTest 35 rfl) (by decide) ?_
        refine g_ireturn hX (dk DX12_takesTest 36 rfl) rfl (by decide) (by decide) (by decide) ?_
        have e : tsA tx n a = (false, a + 2, 0) := by unfold tsA; rw [if_neg (Int32.not_lt.mpr (by assumption)), if_neg (not_not_intro hr2), if_pos (by assumption)]
        rw [e, if_neg (by assumption)]
        exact qI_of ⟨rfl, rfl, (hZ.at (b := a + 2) (by omega) hlt2).mf, fun z => absurd (show false = true from z) Bool.false_ne_true⟩
    · refine g_iconst (v := 0) hX (dk DX12_takesTest 24 rfl) (by decide) ?_
      refine g_ireturn hX (dk DX12_takesTest 25 rfl) rfl (by decide) (by decide) (by decide) ?_
      have e : tsA tx n a = (false, a + 1, 0) := by unfold tsA; rw [if_neg (Int32.not_lt.mpr (by assumption)), if_pos (by assumption)]
      rw [e]
      exact qI_of ⟨rfl, rfl, (hZ.at (Nat.le_succ a) hlt).mf, fun z => absurd (show false = true from z) Bool.false_ne_true⟩
  · refine g_iconst (v := 0) hX (dk DX12_takesTest 7 rfl) (by decide) ?_
    refine g_ireturn hX (dk DX12_takesTest 8 rfl) rfl (by decide) (by decide) (by decide) ?_
    have e : tsA tx n a = (false, a, 0) := by unfold tsA; rw [if_pos (Int32.not_le.mp (by assumption))]
    rw [e]
    exact qI_of ⟨rfl, rfl, hZ.mf, fun z => absurd (show false = true from z) Bool.false_ne_true⟩
end
section
set_option maxRecDepth 8000 in
set_option maxHeartbeats 4000000 in
theorem q_takesE {G : Gt} (hG : Gok G) {I : It} {h : Ht} (hM : HM h) {p c fr : Nat} {tx : Nat → Int32} {n a : Nat} (hp : p < 6) (hc : c < 60) (hT : TX tx n I) (hA : AT n a I) (h28 : I 0 28 = nI fr) (h1 : 100 * p ≤ fr) (h2 : fr ≤ 100 * p + a)  : Con G (6) 0 0 mX12_takesE [.ref 0, .int (nI c)] I h (qI (fun v J h2 => h2 = h ∧ v = bI ((amR tx n 101 true a [] []).1 = true) ∧ FrE p c fr (teI I c (nI fr)) J ∧ TX tx n J ∧ AT n (amR tx n 101 true a [] []).2.1 J ∧ ((amR tx n 101 true a [] []).1 = true → J 14 c = nI (fr + (amR tx n 101 true a [] []).2.2.length) ∧ CD fr J (amR tx n 101 true a [] []).2.2 ∧ J 0 28 = nI (fr + (amR tx n 101 true a [] []).2.2.length) ∧ fr + (amR tx n 101 true a [] []).2.2.length ≤ 100 * p + (amR tx n 101 true a [] []).2.1))) := by
  refine con_intro (own := RX12) (lo0 := [some (.ref 0), some (.int (nI c)), none, none]) hG rfl pl_X12 (Nat.le_of_ble_eq_true rfl) rfl (fun X hX => ?_)
  have hn100 := hT.2.1
  have han := hA.2
  have loop22 : ∀ (f : Nat) (w : Bool) (a2 : Nat) (cs ws : List Int32) (J : It), n + 1 ≤ f + a2 → okW ws → MZ p c fr tx n (teI I c (nI fr)) J a2 cs ws → amR tx n f w a2 cs ws = (amR tx n 101 true a [] []) → GG G (6) 0 0 X (qI (fun v J h2 => h2 = h ∧ v = bI ((amR tx n 101 true a [] []).1 = true) ∧ FrE p c fr (teI I c (nI fr)) J ∧ TX tx n J ∧ AT n (amR tx n 101 true a [] []).2.1 J ∧ ((amR tx n 101 true a [] []).1 = true → J 14 c = nI (fr + (amR tx n 101 true a [] []).2.2.length) ∧ CD fr J (amR tx n 101 true a [] []).2.2 ∧ J 0 28 = nI (fr + (amR tx n 101 true a [] []).2.2.length) ∧ fr + (amR tx n 101 true a [] []).2.2.length ≤ 100 * p + (amR tx n 101 true a [] []).2.1))) 22 [some (.ref 0), some (.int (nI c)), some (.int (b2 w)), none] [] (J) (h) 0 0 := by
    intro f
    induction f using Nat.strongRecOn with | _ f ih => ?_
    intro w a2 cs ws J hf hw hZ hv
    obtain ⟨l1, l2, l3, l4, l5⟩ := hZ.lt
    obtain ⟨f, rfl⟩ : ∃ z, f = z + 1 := ⟨f - 1, by omega⟩
    refine g_aload_0 hX (dk DX12_takesE_0 14 rfl) ?_
    refine g_c1I hX sX12_takesE_23 (by decide) (Nat.le_of_ble_eq_true rfl) (rc0 rfl (MLt hM (by decide)) (MC hM)) (by decide) (by decide) (q_next hG hM hZ.2.1 hZ.2.2.1) ?_
    refine g_istore_3 hX (dk DX12_takesE_0 16 rfl) (by decide) rfl ?_
    refine g_iload_2 hX (dk DX12_takesE_0 17 rfl) ?_
    refine g_if_eq (tgt := 110) hX (dk DX12_takesE_0 18 rfl) (by decide) (fun hc1 => ?_) (fun hc1 => ?_)
    · have hwt : w = false := by
        cases w
        · rfl
        · exact absurd hc1 (by decide)
      subst hwt
      refine g_iload_3 hX (dk DX12_takesE_1 4 rfl) ?_
      refine g_bipush (v := 38) hX (dk DX12_takesE_1 5 rfl) (by decide) ?_
      refine g_icmp_eq (tgt := 122) hX (dk DX12_takesE_1 6 rfl) (by decide) (fun hc2 => ?_) (fun hc2 => ?_)
      · have hb : nxA tx n a2 = 38 ∨ nxA tx n a2 = 124 := by first | exact Or.inl (by assumption) | exact Or.inr (by assumption)
        have hlt : a2 < n := by rcases hb with z | z <;> exact nxA_no (by decide) z
        have hb3 : ¬ (nxA tx n a2 = 33 ∨ nxA tx n a2 = 40) := by rcases hb with z | z <;> rw [z] <;> decide
        refine g_aload_0 hX (dk DX12_takesE_1 10 rfl) ?_
        refine g_iload_3 hX (dk DX12_takesE_1 11 rfl) ?_
        refine g_c2v hX sX12_takesE_124 (by decide) (Nat.le_of_ble_eq_true rfl) (rc0 rfl (MLt hM (by decide)) (MC hM)) (by decide) (by decide) (q_settle hG hM hp hZ) ?_
        rintro J9 _ ⟨rfl, hZ9⟩
        obtain ⟨m1, m2, m3, m4, m5⟩ := hZ9.lt
        refine g_aload_0 hX (dk DX12_takesE_1 13 rfl) ?_
        refine g_getRs (r := 16) hX (dk DX12_takesE_1 14 rfl) KX12 fX12_92 (by decide) rfl (MLt hM (by decide)) (MC hM) (MR hM 27 (by decide) rfl) ?_
        refine g_aload_0 hX (dk DX12_takesE_1 15 rfl) ?_
        refine g_getIv hX (dk DX12_takesE_1 16 rfl) KX12 fX12_98 (by decide) rfl (MLt hM (by decide)) (MC hM) (hZ9.2.2.2.2.2.1) ?_
        refine g_iload_3 hX (dk DX12_takesE_1 17 rfl) ?_
        refine i_iastore hX (dk DX12_takesE_1 18 rfl) (MLt hM (q := 16) (by decide)) (MS hM 16 (by decide) rfl) (⟨rfl, by omega, by decide⟩) ?_
        refine g_aload_0 hX (dk DX12_takesE_1 19 rfl) ?_
        refine g_dup hX (dk DX12_takesE_1 20 rfl) rfl ?_
        refine g_getIv hX (dk DX12_takesE_1 21 rfl) KX12 fX12_98 (by decide) rfl (MLt hM (by decide)) (MC hM) ((show _ = nI (seA (nxA tx n a2) ws cs).2.length from hZ9.2.2.2.2.2.1)) ?_
        refine g_iconst (v := 1) hX (dk DX12_takesE_1 22 rfl) (by decide) ?_
        refine g_iadd hX (dk DX12_takesE_1 23 rfl) ?_
        refine g_nmI (nI ((seA (nxA tx n a2) ws cs).2.length + 1)) (nI_1 _) ?_
        refine g_putI hX (dk DX12_takesE_1 24 rfl) KX12 fX12_98 (by decide) rfl (MLt hM (by decide)) (MC hM) (Or.inl rfl) (rfl) (rfl) ?_
        refine g_iconst (v := 1) hX (dk DX12_takesE_1 25 rfl) (by decide) ?_
        refine g_istore_2 hX (dk DX12_takesE_1 26 rfl) (by decide) rfl ?_
        refine g_aload_0 hX (dk DX12_takesE_1 27 rfl) ?_
        refine g_dup hX (dk DX12_takesE_1 28 rfl) rfl ?_
        refine g_getIv hX (dk DX12_takesE_1 29 rfl) KX12 fX12_65 (by decide) rfl (MLt hM (by decide)) (MC hM) ((show _ = nI a2 from hZ9.2.2.1.1)) ?_
        refine g_iconst (v := 1) hX (dk DX12_takesE_1 30 rfl) (by decide) ?_
        refine g_iadd hX (dk DX12_takesE_1 31 rfl) ?_
        refine g_nmI (nI (a2 + 1)) (nI_1 _) ?_
        refine g_putI hX (dk DX12_takesE_1 32 rfl) KX12 fX12_65 (by decide) rfl (MLt hM (by decide)) (MC hM) (Or.inl rfl) (rfl) (rfl) ?_
        refine g_goto (tgt := 22) hX (dk DX12_takesE_1 33 rfl) (by decide) ?_
        first
        | exact g_fgt (ih f (by omega) true (a2 + 1) cs (nxA tx n a2 :: ws) _ (by omega) (hw.cn (by rcases ho with z | z <;> rw [z] <;> decide)) (hZ.push hlt (by rw [opn_c, if_pos ho])) (by rw [← hv, am_o ho h4])) ⟨rfl, rfl, rfl, trivial⟩
        | exact g_fgt (ih f (by omega) false _ _ _ _ (by have := ts_gt hts; omega) (hw.wh _) (hZ9 hts) (by rw [← hv, am_t hno hts])) ⟨rfl, rfl, rfl, trivial⟩
        | exact g_fgt (ih f (by omega) true (a2 + 1) _ (nxA tx n a2 :: (seA (nxA tx n a2) ws cs).2) _ (by omega) ((hw.se _).cn (by rcases hb with z | z <;> rw [z] <;> decide)) (hZ9.push0 hlt hb3) (by rw [← hv, am_b hb])) ⟨rfl, rfl, rfl, trivial⟩
        | exact g_fgt (ih f (by omega) false (a2 + 1) _ _ _ (by omega) (hw10.wh _) hZ8 (by rw [← hv, am_c hnb hne h41, ext]; rfl)) ⟨rfl, rfl, rfl, trivial⟩
      · refine g_iload_3 hX (dk DX12_takesE_1 7 rfl) ?_
        refine g_bipush (v := 124) hX (dk DX12_takesE_1 8 rfl) (by decide) ?_
        refine g_icmp_ne (tgt := 162) hX (dk DX12_takesE_1 9 rfl) (by decide) (fun hc3 => ?_) (fun hc3 => ?_)
        · have hnb : ¬ (nxA tx n a2 = 38 ∨ nxA tx n a2 = 124) := by rintro (z | z) <;> contradiction
          refine g_aload_0 hX (dk DX12_takesE_1 34 rfl) ?_
          refine g_bipush (v := 124) hX (dk DX12_takesE_1 35 rfl) (by decide) ?_
          refine g_c2v hX sX12_takesE_165 (by decide) (Nat.le_of_ble_eq_true rfl) (rc0 rfl (MLt hM (by decide)) (MC hM)) (by decide) (by decide) (q_settle hG hM hp hZ) ?_
          rintro J9 _ ⟨rfl, hZ9⟩
          obtain ⟨m1, m2, m3, m4, m5⟩ := hZ9.lt
          refine g_aload_0 hX (dk DX12_takesE_1 37 rfl) ?_
          refine g_getRs (r := 14) hX (dk DX12_takesE_1 38 rfl) KX12 fX12_86 (by decide) rfl (MLt hM (by decide)) (MC hM) (MR hM 25 (by decide) rfl) ?_
          refine g_iload_1 hX (dk DX12_takesE_1 39 rfl) ?_
          refine g_aload_0 hX (dk DX12_takesE_1 40 rfl) ?_
          refine g_getIv hX (dk DX12_takesE_1 41 rfl) KX12 fX12_95 (by decide) rfl (MLt hM (by decide)) (MC hM) (hZ9.2.2.2.1.1) ?_
          refine i_iastore hX (dk DX12_takesE_1 42 rfl) (MLt hM (q := 14) (by decide)) (MS hM 14 (by decide) rfl) (⟨rfl, hc, by decide⟩) ?_
          refine g_aload_0 hX (dk DX12_takesE_1 43 rfl) ?_
          refine g_getIv hX (dk DX12_takesE_1 44 rfl) KX12 fX12_98 (by decide) rfl (MLt hM (by decide)) (MC hM) ((show _ = nI (seA 124 ws cs).2.length from hZ9.2.2.2.2.2.1)) ?_
          refine g_if_ne (tgt := 187) hX (dk DX12_takesE_1 45 rfl) (by decide) (fun hc4 => ?_) (fun hc4 => ?_)
          · obtain ⟨x, t, ext⟩ := cons_0 (by omega) hc4
            have hne : ¬ (seA 124 ws cs).2 = [] := by rw [ext]; exact List.cons_ne_nil _ _
            refine g_iload_3 hX (dk DX12_takesE_1 48 rfl) ?_
            refine g_bipush (v := 41) hX (dk DX12_takesE_1 49 rfl) (by decide) ?_
            refine g_icmp_eq (tgt := 195) hX (dk DX12_takesE_1 50 rfl) (by decide) (fun hc5 => ?_) (fun hc5 => ?_)
            · have h41 := hc5
              have hlt : a2 < n := nxA_no (by decide) h41
              have hx : x = 33 ∨ x = 40 := by
                have q1 := hw.se (s := 124) cs x (by rw [ext]; exact List.mem_cons_self)
                have q2 := se_top ext
                rcases q1 with z | z | z | z
                · exact Or.inl z
                · exact Or.inr z
                · exact absurd z q2.1
                · exact absurd z q2.2
              have hw10 : okW t := by have q1 := hw.se (s := 124) cs; rw [ext] at q1; exact q1.tl
              have hZ10 := hZ9.w14 (x := nI (fr + (seA 124 ws cs).1.length))
              rw [ext] at hZ10
              have ho10 := hZ10.2.2.2.2.2.2.2.trans (show nI (opn (x :: t)) = nI (opn t + 1) by rw [opn_c, if_pos hx])
              refine g_aload_0 hX (dk DX12_takesE_1 53 rfl) ?_
              refine g_dup hX (dk DX12_takesE_1 54 rfl) rfl ?_
              refine g_getIv hX (dk DX12_takesE_1 55 rfl) KX12 fX12_98 (by decide) rfl (MLt hM (by decide)) (MC hM) ((show _ = nI (t.length + 1) from hZ10.2.2.2.2.2.1)) ?_
              refine g_iconst (v := 1) hX (dk DX12_takesE_1 56 rfl) (by decide) ?_
              refine g_isub hX (dk DX12_takesE_1 57 rfl) ?_
              refine g_nmI (nI t.length) (nI_pred _) ?_
              refine g_putI hX (dk DX12_takesE_1 58 rfl) KX12 fX12_98 (by decide) rfl (MLt hM (by decide)) (MC hM) (Or.inl rfl) (rfl) (rfl) ?_
              refine g_aload_0 hX (dk DX12_takesE_1 59 rfl) ?_
              refine g_dup hX (dk DX12_takesE_2 0 rfl) rfl ?_
              refine g_getIv hX (dk DX12_takesE_2 1 rfl) KX12 fX12_101 (by decide) rfl (MLt hM (by decide)) (MC hM) ((show _ = nI (opn t + 1) from ho10)) ?_
              refine g_iconst (v := 1) hX (dk DX12_takesE_2 2 rfl) (by decide) ?_
              refine g_isub hX (dk DX12_takesE_2 3 rfl) ?_
              refine g_nmI (nI (opn t)) (nI_pred _) ?_
              refine g_putI hX (dk DX12_takesE_2 4 rfl) KX12 fX12_101 (by decide) rfl (MLt hM (by decide)) (MC hM) (Or.inl rfl) (rfl) (rfl) ?_
              refine g_aload_0 hX (dk DX12_takesE_2 5 rfl) ?_
              refine g_dup hX (dk DX12_takesE_2 6 rfl) rfl ?_
              refine g_getIv hX (dk DX12_takesE_2 7 rfl) KX12 fX12_65 (by decide) rfl (MLt hM (by decide)) (MC hM) ((show _ = nI a2 from hZ9.2.2.1.1)) ?_
              refine g_iconst (v := 1) hX (dk DX12_takesE_2 8 rfl) (by decide) ?_
              refine g_iadd hX (dk DX12_takesE_2 9 rfl) ?_
              refine g_nmI (nI (a2 + 1)) (nI_1 _) ?_
              refine g_putI hX (dk DX12_takesE_2 10 rfl) KX12 fX12_65 (by decide) rfl (MLt hM (by decide)) (MC hM) (Or.inl rfl) (rfl) (rfl) ?_
              refine g_aload_0 hX (dk DX12_takesE_2 11 rfl) ?_
              refine g_c1v hX sX12_takesE_226 (by decide) (Nat.le_of_ble_eq_true rfl) (rc0 rfl (MLt hM (by decide)) (MC hM)) (by decide) (by decide) (q_whole hG hM hp (hZ10.pop hlt)) ?_
              rintro J8 _ ⟨rfl, hZ8⟩
              refine g_goto (tgt := 22) hX (dk DX12_takesE_2 13 rfl) (by decide) ?_
              first
              | exact g_fgt (ih f (by omega) true (a2 + 1) cs (nxA tx n a2 :: ws) _ (by omega) (hw.cn (by rcases ho with z | z <;> rw [z] <;> decide)) (hZ.push hlt (by rw [opn_c, if_pos ho])) (by rw [← hv, am_o ho h4])) ⟨rfl, rfl, rfl, trivial⟩
              | exact g_fgt (ih f (by omega) false _ _ _ _ (by have := ts_gt hts; omega) (hw.wh _) (hZ9 hts) (by rw [← hv, am_t hno hts])) ⟨rfl, rfl, rfl, trivial⟩
              | exact g_fgt (ih f (by omega) true (a2 + 1) _ (nxA tx n a2 :: (seA (nxA tx n a2) ws cs).2) _ (by omega) ((hw.se _).cn (by rcases hb with z | z <;> rw [z] <;> decide)) (hZ9.push0 hlt hb3) (by rw [← hv, am_b hb])) ⟨rfl, rfl, rfl, trivial⟩
              | exact g_fgt (ih f (by omega) false (a2 + 1) _ _ _ (by omega) (hw10.wh _) hZ8 (by rw [← hv, am_c hnb hne h41, ext]; rfl)) ⟨rfl, rfl, rfl, trivial⟩
            · refine g_iconst (v := 0) hX (dk DX12_takesE_1 51 rfl) (by decide) ?_
              refine g_ireturn hX (dk DX12_takesE_1 52 rfl) rfl (by decide) (by decide) (by decide) ?_
              have e := am_x (f := f) hnb hne (by assumption)
              rw [e] at hv
              rw [← hv]
              exact qI_of ⟨rfl, rfl, (hZ9.w14).mf.1, (hZ9.w14).mf.2.1, (hZ9.w14).mf.2.2, fun z => absurd (show false = true from z) Bool.false_ne_true⟩
          · refine g_iconst (v := 1) hX (dk DX12_takesE_1 46 rfl) (by decide) ?_
            refine g_ireturn hX (dk DX12_takesE_1 47 rfl) rfl (by decide) (by decide) (by decide) ?_
            have hnil := nil_0 (by omega) (show nI (seA 124 ws cs).2.length = 0 by assumption)
            have e := am_e (f := f) hnb hnil
            rw [e] at hv
            rw [← hv]
            have hZ10 := hZ9.w14 (x := nI (fr + (seA 124 ws cs).1.length))
            exact qI_of ⟨rfl, rfl, hZ10.1, hZ10.2.1, hZ10.2.2.1, fun _ => ⟨up0 _ _ _ _, hZ10.2.2.2.2.1, hZ10.2.2.2.1.1, by show fr + (seA 124 ws cs).1.length ≤ 100 * p + a2; omega⟩⟩
        · have hb : nxA tx n a2 = 38 ∨ nxA tx n a2 = 124 := by first | exact Or.inl (by assumption) | exact Or.inr (by assumption)
          have hlt : a2 < n := by rcases hb with z | z <;> exact nxA_no (by decide) z
          have hb3 : ¬ (nxA tx n a2 = 33 ∨ nxA tx n a2 = 40) := by rcases hb with z | z <;> rw [z] <;> decide
          refine g_aload_0 hX (dk DX12_takesE_1 10 rfl) ?_
          refine g_iload_3 hX (dk DX12_takesE_1 11 rfl) ?_
          refine g_c2v hX sX12_takesE_124 (by decide) (Nat.le_of_ble_eq_true rfl) (rc0 rfl (MLt hM (by decide)) (MC hM)) (by decide) (by decide) (q_settle hG hM hp hZ) ?_
          rintro J9 _ ⟨rfl, hZ9⟩
          obtain ⟨m1, m2, m3, m4, m5⟩ := hZ9.lt
          refine g_aload_0 hX (dk DX12_takesE_1 13 rfl) ?_
          refine g_getRs (r := 16) hX (dk DX12_takesE_1 14 rfl) KX12 fX12_92 (by decide) rfl (MLt hM (by decide)) (MC hM) (MR hM 27 (by decide) rfl) ?_
          refine g_aload_0 hX (dk DX12_takesE_1 15 rfl) ?_
          refine g_getIv hX (dk DX12_takesE_1 16 rfl) KX12 fX12_98 (by decide) rfl (MLt hM (by decide)) (MC hM) (hZ9.2.2.2.2.2.1) ?_
          refine g_iload_3 hX (dk DX12_takesE_1 17 rfl) ?_
          refine i_iastore hX (dk DX12_takesE_1 18 rfl) (MLt hM (q := 16) (by decide)) (MS hM 16 (by decide) rfl) (⟨rfl, by omega, by decide⟩) ?_
          refine g_aload_0 hX (dk DX12_takesE_1 19 rfl) ?_
          refine g_dup hX (dk DX12_takesE_1 20 rfl) rfl ?_
          refine g_getIv hX (dk DX12_takesE_1 21 rfl) KX12 fX12_98 (by decide) rfl (MLt hM (by decide)) (MC hM) ((show _ = nI (seA (nxA tx n a2) ws cs).2.length from hZ9.2.2.2.2.2.1)) ?_
          refine g_iconst (v := 1) hX (dk DX12_takesE_1 22 rfl) (by decide) ?_
          refine g_iadd hX (dk DX12_takesE_1 23 rfl) ?_
          refine g_nmI (nI ((seA (nxA tx n a2) ws cs).2.length + 1)) (nI_1 _) ?_
          refine g_putI hX (dk DX12_takesE_1 24 rfl) KX12 fX12_98 (by decide) rfl (MLt hM (by decide)) (MC hM) (Or.inl rfl) (rfl) (rfl) ?_
          refine g_iconst (v := 1) hX (dk DX12_takesE_1 25 rfl) (by decide) ?_
          refine g_istore_2 hX (dk DX12_takesE_1 26 rfl) (by decide) rfl ?_
          refine g_aload_0 hX (dk DX12_takesE_1 27 rfl) ?_
          refine g_dup hX (dk DX12_takesE_1 28 rfl) rfl ?_
          refine g_getIv hX (dk DX12_takesE_1 29 rfl) KX12 fX12_65 (by decide) rfl (MLt hM (by decide)) (MC hM) ((show _ = nI a2 from hZ9.2.2.1.1)) ?_
          refine g_iconst (v := 1) hX (dk DX12_takesE_1 30 rfl) (by decide) ?_
          refine g_iadd hX (dk DX12_takesE_1 31 rfl) ?_
          refine g_nmI (nI (a2 + 1)) (nI_1 _) ?_
          refine g_putI hX (dk DX12_takesE_1 32 rfl) KX12 fX12_65 (by decide) rfl (MLt hM (by decide)) (MC hM) (Or.inl rfl) (rfl) (rfl) ?_
          refine g_goto (tgt := 22) hX (dk DX12_takesE_1 33 rfl) (by decide) ?_
          first
          | exact g_fgt (ih f (by omega) true (a2 + 1) cs (nxA tx n a2 :: ws) _ (by omega) (hw.cn (by rcases ho with z | z <;> rw [z] <;> decide)) (hZ.push hlt (by rw [opn_c, if_pos ho])) (by rw [← hv, am_o ho h4])) ⟨rfl, rfl, rfl, trivial⟩
          | exact g_fgt (ih f (by omega) false _ _ _ _ (by have := ts_gt hts; omega) (hw.wh _) (hZ9 hts) (by rw [← hv, am_t hno hts])) ⟨rfl, rfl, rfl, trivial⟩
          | exact g_fgt (ih f (by omega) true (a2 + 1) _ (nxA tx n a2 :: (seA (nxA tx n a2) ws cs).2) _ (by omega) ((hw.se _).cn (by rcases hb with z | z <;> rw [z] <;> decide)) (hZ9.push0 hlt hb3) (by rw [← hv, am_b hb])) ⟨rfl, rfl, rfl, trivial⟩
          | exact g_fgt (ih f (by omega) false (a2 + 1) _ _ _ (by omega) (hw10.wh _) hZ8 (by rw [← hv, am_c hnb hne h41, ext]; rfl)) ⟨rfl, rfl, rfl, trivial⟩
    · have hwt : w = true := by
        cases w
        · exact absurd rfl hc1
        · rfl
      subst hwt
      refine g_iload_3 hX (dk DX12_takesE_0 19 rfl) ?_
      refine g_bipush (v := 33) hX (dk DX12_takesE_0 20 rfl) (by decide) ?_
      refine g_icmp_eq (tgt := 43) hX (dk DX12_takesE_0 21 rfl) (by decide) (fun hc6 => ?_) (fun hc6 => ?_)
      · have ho : nxA tx n a2 = 33 ∨ nxA tx n a2 = 40 := by first | exact Or.inl (by assumption) | exact Or.inr (by assumption)
        have hlt : a2 < n := by rcases ho with z | z <;> exact nxA_no (by decide) z
        have hol := opn_le ws
        refine g_aload_0 hX (dk DX12_takesE_0 25 rfl) ?_
        refine g_getIv hX (dk DX12_takesE_0 26 rfl) KX12 fX12_101 (by decide) rfl (MLt hM (by decide)) (MC hM) (hZ.2.2.2.2.2.2.2) ?_
        refine g_iconst (v := 4) hX (dk DX12_takesE_0 27 rfl) (by decide) ?_
        refine g_icmp_ne (tgt := 53) hX (dk DX12_takesE_0 28 rfl) (by decide) (fun hc7 => ?_) (fun hc7 => ?_)
        · have h4 : ¬ opn ws = 4 := fun z => hc7 (by rw [z]; rfl)
          refine g_aload_0 hX (dk DX12_takesE_0 31 rfl) ?_
          refine g_dup hX (dk DX12_takesE_0 32 rfl) rfl ?_
          refine g_getIv hX (dk DX12_takesE_0 33 rfl) KX12 fX12_101 (by decide) rfl (MLt hM (by decide)) (MC hM) (hZ.2.2.2.2.2.2.2) ?_
          refine g_iconst (v := 1) hX (dk DX12_takesE_0 34 rfl) (by decide) ?_
          refine g_iadd hX (dk DX12_takesE_0 35 rfl) ?_
          refine g_nmI (nI (opn ws + 1)) (nI_1 _) ?_
          refine g_putI hX (dk DX12_takesE_0 36 rfl) KX12 fX12_101 (by decide) rfl (MLt hM (by decide)) (MC hM) (Or.inl rfl) (rfl) (rfl) ?_
          refine g_aload_0 hX (dk DX12_takesE_0 37 rfl) ?_
          refine g_getRs (r := 16) hX (dk DX12_takesE_0 38 rfl) KX12 fX12_92 (by decide) rfl (MLt hM (by decide)) (MC hM) (MR hM 27 (by decide) rfl) ?_
          refine g_aload_0 hX (dk DX12_takesE_0 39 rfl) ?_
          refine g_getIv hX (dk DX12_takesE_0 40 rfl) KX12 fX12_98 (by decide) rfl (MLt hM (by decide)) (MC hM) ((show _ = nI ws.length from hZ.2.2.2.2.2.1)) ?_
          refine g_iload_3 hX (dk DX12_takesE_0 41 rfl) ?_
          refine i_iastore hX (dk DX12_takesE_0 42 rfl) (MLt hM (q := 16) (by decide)) (MS hM 16 (by decide) rfl) (⟨rfl, by omega, by decide⟩) ?_
          refine g_aload_0 hX (dk DX12_takesE_0 43 rfl) ?_
          refine g_dup hX (dk DX12_takesE_0 44 rfl) rfl ?_
          refine g_getIv hX (dk DX12_takesE_0 45 rfl) KX12 fX12_98 (by decide) rfl (MLt hM (by decide)) (MC hM) ((show _ = nI ws.length from hZ.2.2.2.2.2.1)) ?_
          refine g_iconst (v := 1) hX (dk DX12_takesE_0 46 rfl) (by decide) ?_
          refine g_iadd hX (dk DX12_takesE_0 47 rfl) ?_
          refine g_nmI (nI (ws.length + 1)) (nI_1 _) ?_
          refine g_putI hX (dk DX12_takesE_0 48 rfl) KX12 fX12_98 (by decide) rfl (MLt hM (by decide)) (MC hM) (Or.inl rfl) (rfl) (rfl) ?_
          refine g_aload_0 hX (dk DX12_takesE_0 49 rfl) ?_
          refine g_dup hX (dk DX12_takesE_0 50 rfl) rfl ?_
          refine g_getIv hX (dk DX12_takesE_0 51 rfl) KX12 fX12_65 (by decide) rfl (MLt hM (by decide)) (MC hM) ((show _ = nI a2 from hZ.2.2.1.1)) ?_
          refine g_iconst (v := 1) hX (dk DX12_takesE_0 52 rfl) (by decide) ?_
          refine g_iadd hX (dk DX12_takesE_0 53 rfl) ?_
          refine g_nmI (nI (a2 + 1)) (nI_1 _) ?_
          refine g_putI hX (dk DX12_takesE_0 54 rfl) KX12 fX12_65 (by decide) rfl (MLt hM (by decide)) (MC hM) (Or.inl rfl) (rfl) (rfl) ?_
          refine g_goto (tgt := 22) hX (dk DX12_takesE_0 55 rfl) (by decide) ?_
          first
          | exact g_fgt (ih f (by omega) true (a2 + 1) cs (nxA tx n a2 :: ws) _ (by omega) (hw.cn (by rcases ho with z | z <;> rw [z] <;> decide)) (hZ.push hlt (by rw [opn_c, if_pos ho])) (by rw [← hv, am_o ho h4])) ⟨rfl, rfl, rfl, trivial⟩
          | exact g_fgt (ih f (by omega) false _ _ _ _ (by have := ts_gt hts; omega) (hw.wh _) (hZ9 hts) (by rw [← hv, am_t hno hts])) ⟨rfl, rfl, rfl, trivial⟩
          | exact g_fgt (ih f (by omega) true (a2 + 1) _ (nxA tx n a2 :: (seA (nxA tx n a2) ws cs).2) _ (by omega) ((hw.se _).cn (by rcases hb with z | z <;> rw [z] <;> decide)) (hZ9.push0 hlt hb3) (by rw [← hv, am_b hb])) ⟨rfl, rfl, rfl, trivial⟩
          | exact g_fgt (ih f (by omega) false (a2 + 1) _ _ _ (by omega) (hw10.wh _) hZ8 (by rw [← hv, am_c hnb hne h41, ext]; rfl)) ⟨rfl, rfl, rfl, trivial⟩
        · refine g_iconst (v := 0) hX (dk DX12_takesE_0 29 rfl) (by decide) ?_
          refine g_ireturn hX (dk DX12_takesE_0 30 rfl) rfl (by decide) (by decide) (by decide) ?_
          have e := am_o4 (f := f) (cs := cs) ho ((nI_eq (b := 4) (by omega) (by decide)).mp (show nI (opn ws) = nI 4 by assumption))
          rw [e] at hv
          rw [← hv]
          exact qI_of ⟨rfl, rfl, hZ.mf.1, hZ.mf.2.1, hZ.mf.2.2, fun z => absurd (show false = true from z) Bool.false_ne_true⟩
      · refine g_iload_3 hX (dk DX12_takesE_0 22 rfl) ?_
        refine g_bipush (v := 40) hX (dk DX12_takesE_0 23 rfl) (by decide) ?_
        refine g_icmp_ne (tgt := 96) hX (dk DX12_takesE_0 24 rfl) (by decide) (fun hc8 => ?_) (fun hc8 => ?_)
        · have hno : ¬ (nxA tx n a2 = 33 ∨ nxA tx n a2 = 40) := by rintro (z | z) <;> contradiction
          refine g_aload_0 hX (dk DX12_takesE_0 56 rfl) ?_
          refine g_c1q hX sX12_takesE_97 (by decide) (Nat.le_of_ble_eq_true rfl) (rc0 rfl (MLt hM (by decide)) (MC hM)) (by decide) (by decide) (q_takesTest hG hM hp hZ) ?_
          rintro v J9 h9 ⟨rfl, rfl, hF9, hZ9⟩
          refine g_ifb_eq (tgt := 108) hX (dk DX12_takesE_0 58 rfl) (by decide) (fun hc9 => ?_) (fun hc9 => ?_)
          · refine g_iconst (v := 0) hX (dk DX12_takesE_1 2 rfl) (by decide) ?_
            refine g_ireturn hX (dk DX12_takesE_1 3 rfl) rfl (by decide) (by decide) (by decide) ?_
            have e := am_tf (f := f) (cs := cs) (ws := ws) hno (by assumption)
            rw [e] at hv
            rw [← hv]
            exact qI_of ⟨rfl, rfl, hF9.1, hF9.2.1, hF9.2.2, fun z => absurd (show false = true from z) Bool.false_ne_true⟩
          · have hts := hc9
            refine g_iconst (v := 0) hX (dk DX12_takesE_0 59 rfl) (by decide) ?_
            refine g_istore_2 hX (dk DX12_takesE_1 0 rfl) (by decide) rfl ?_
            refine g_goto (tgt := 22) hX (dk DX12_takesE_1 1 rfl) (by decide) ?_
            first
            | exact g_fgt (ih f (by omega) true (a2 + 1) cs (nxA tx n a2 :: ws) _ (by omega) (hw.cn (by rcases ho with z | z <;> rw [z] <;> decide)) (hZ.push hlt (by rw [opn_c, if_pos ho])) (by rw [← hv, am_o ho h4])) ⟨rfl, rfl, rfl, trivial⟩
            | exact g_fgt (ih f (by omega) false _ _ _ _ (by have := ts_gt hts; omega) (hw.wh _) (hZ9 hts) (by rw [← hv, am_t hno hts])) ⟨rfl, rfl, rfl, trivial⟩
            | exact g_fgt (ih f (by omega) true (a2 + 1) _ (nxA tx n a2 :: (seA (nxA tx n a2) ws cs).2) _ (by omega) ((hw.se _).cn (by rcases hb with z | z <;> rw [z] <;> decide)) (hZ9.push0 hlt hb3) (by rw [← hv, am_b hb])) ⟨rfl, rfl, rfl, trivial⟩
            | exact g_fgt (ih f (by omega) false (a2 + 1) _ _ _ (by omega) (hw10.wh _) hZ8 (by rw [← hv, am_c hnb hne h41, ext]; rfl)) ⟨rfl, rfl, rfl, trivial⟩
        · have ho : nxA tx n a2 = 33 ∨ nxA tx n a2 = 40 := by first | exact Or.inl (by assumption) | exact Or.inr (by assumption)
          have hlt : a2 < n := by rcases ho with z | z <;> exact nxA_no (by decide) z
          have hol := opn_le ws
          refine g_aload_0 hX (dk DX12_takesE_0 25 rfl) ?_
          refine g_getIv hX (dk DX12_takesE_0 26 rfl) KX12 fX12_101 (by decide) rfl (MLt hM (by decide)) (MC hM) (hZ.2.2.2.2.2.2.2) ?_
          refine g_iconst (v := 4) hX (dk DX12_takesE_0 27 rfl) (by decide) ?_
          refine g_icmp_ne (tgt := 53) hX (dk DX12_takesE_0 28 rfl) (by decide) (fun hc10 => ?_) (fun hc10 => ?_)
          · have h4 : ¬ opn ws = 4 := fun z => hc10 (by rw [z]; rfl)
            refine g_aload_0 hX (dk DX12_takesE_0 31 rfl) ?_
            refine g_dup hX (dk DX12_takesE_0 32 rfl) rfl ?_
            refine g_getIv hX (dk DX12_takesE_0 33 rfl) KX12 fX12_101 (by decide) rfl (MLt hM (by decide)) (MC hM) (hZ.2.2.2.2.2.2.2) ?_
            refine g_iconst (v := 1) hX (dk DX12_takesE_0 34 rfl) (by decide) ?_
            refine g_iadd hX (dk DX12_takesE_0 35 rfl) ?_
            refine g_nmI (nI (opn ws + 1)) (nI_1 _) ?_
            refine g_putI hX (dk DX12_takesE_0 36 rfl) KX12 fX12_101 (by decide) rfl (MLt hM (by decide)) (MC hM) (Or.inl rfl) (rfl) (rfl) ?_
            refine g_aload_0 hX (dk DX12_takesE_0 37 rfl) ?_
            refine g_getRs (r := 16) hX (dk DX12_takesE_0 38 rfl) KX12 fX12_92 (by decide) rfl (MLt hM (by decide)) (MC hM) (MR hM 27 (by decide) rfl) ?_
            refine g_aload_0 hX (dk DX12_takesE_0 39 rfl) ?_
            refine g_getIv hX (dk DX12_takesE_0 40 rfl) KX12 fX12_98 (by decide) rfl (MLt hM (by decide)) (MC hM) ((show _ = nI ws.length from hZ.2.2.2.2.2.1)) ?_
            refine g_iload_3 hX (dk DX12_takesE_0 41 rfl) ?_
            refine i_iastore hX (dk DX12_takesE_0 42 rfl) (MLt hM (q := 16) (by decide)) (MS hM 16 (by decide) rfl) (⟨rfl, by omega, by decide⟩) ?_
            refine g_aload_0 hX (dk DX12_takesE_0 43 rfl) ?_
            refine g_dup hX (dk DX12_takesE_0 44 rfl) rfl ?_
            refine g_getIv hX (dk DX12_takesE_0 45 rfl) KX12 fX12_98 (by decide) rfl (MLt hM (by decide)) (MC hM) ((show _ = nI ws.length from hZ.2.2.2.2.2.1)) ?_
            refine g_iconst (v := 1) hX (dk DX12_takesE_0 46 rfl) (by decide) ?_
            refine g_iadd hX (dk DX12_takesE_0 47 rfl) ?_
            refine g_nmI (nI (ws.length + 1)) (nI_1 _) ?_
            refine g_putI hX (dk DX12_takesE_0 48 rfl) KX12 fX12_98 (by decide) rfl (MLt hM (by decide)) (MC hM) (Or.inl rfl) (rfl) (rfl) ?_
            refine g_aload_0 hX (dk DX12_takesE_0 49 rfl) ?_
            refine g_dup hX (dk DX12_takesE_0 50 rfl) rfl ?_
            refine g_getIv hX (dk DX12_takesE_0 51 rfl) KX12 fX12_65 (by decide) rfl (MLt hM (by decide)) (MC hM) ((show _ = nI a2 from hZ.2.2.1.1)) ?_
            refine g_iconst (v := 1) hX (dk DX12_takesE_0 52 rfl) (by decide) ?_
            refine g_iadd hX (dk DX12_takesE_0 53 rfl) ?_
            refine g_nmI (nI (a2 + 1)) (nI_1 _) ?_
            refine g_putI hX (dk DX12_takesE_0 54 rfl) KX12 fX12_65 (by decide) rfl (MLt hM (by decide)) (MC hM) (Or.inl rfl) (rfl) (rfl) ?_
            refine g_goto (tgt := 22) hX (dk DX12_takesE_0 55 rfl) (by decide) ?_
            first
            | exact g_fgt (ih f (by omega) true (a2 + 1) cs (nxA tx n a2 :: ws) _ (by omega) (hw.cn (by rcases ho with z | z <;> rw [z] <;> decide)) (hZ.push hlt (by rw [opn_c, if_pos ho])) (by rw [← hv, am_o ho h4])) ⟨rfl, rfl, rfl, trivial⟩
            | exact g_fgt (ih f (by omega) false _ _ _ _ (by have := ts_gt hts; omega) (hw.wh _) (hZ9 hts) (by rw [← hv, am_t hno hts])) ⟨rfl, rfl, rfl, trivial⟩
            | exact g_fgt (ih f (by omega) true (a2 + 1) _ (nxA tx n a2 :: (seA (nxA tx n a2) ws cs).2) _ (by omega) ((hw.se _).cn (by rcases hb with z | z <;> rw [z] <;> decide)) (hZ9.push0 hlt hb3) (by rw [← hv, am_b hb])) ⟨rfl, rfl, rfl, trivial⟩
            | exact g_fgt (ih f (by omega) false (a2 + 1) _ _ _ (by omega) (hw10.wh _) hZ8 (by rw [← hv, am_c hnb hne h41, ext]; rfl)) ⟨rfl, rfl, rfl, trivial⟩
          · refine g_iconst (v := 0) hX (dk DX12_takesE_0 29 rfl) (by decide) ?_
            refine g_ireturn hX (dk DX12_takesE_0 30 rfl) rfl (by decide) (by decide) (by decide) ?_
            have e := am_o4 (f := f) (cs := cs) ho ((nI_eq (b := 4) (by omega) (by decide)).mp (show nI (opn ws) = nI 4 by assumption))
            rw [e] at hv
            rw [← hv]
            exact qI_of ⟨rfl, rfl, hZ.mf.1, hZ.mf.2.1, hZ.mf.2.2, fun z => absurd (show false = true from z) Bool.false_ne_true⟩
  refine g_aload_0 hX (dk DX12_takesE_0 0 rfl) ?_
  refine g_iconst (v := 0) hX (dk DX12_takesE_0 1 rfl) (by decide) ?_
  refine g_putI hX (dk DX12_takesE_0 2 rfl) KX12 fX12_98 (by decide) rfl (MLt hM (by decide)) (MC hM) (Or.inl rfl) (rfl) (rfl) ?_
  refine g_aload_0 hX (dk DX12_takesE_0 3 rfl) ?_
  refine g_iconst (v := 0) hX (dk DX12_takesE_0 4 rfl) (by decide) ?_
  refine g_putI hX (dk DX12_takesE_0 5 rfl) KX12 fX12_101 (by decide) rfl (MLt hM (by decide)) (MC hM) (Or.inl rfl) (rfl) (rfl) ?_
  refine g_aload_0 hX (dk DX12_takesE_0 6 rfl) ?_
  refine g_getRs (r := 13) hX (dk DX12_takesE_0 7 rfl) KX12 fX12_83 (by decide) rfl (MLt hM (by decide)) (MC hM) (MR hM 24 (by decide) rfl) ?_
  refine g_iload_1 hX (dk DX12_takesE_0 8 rfl) ?_
  refine g_aload_0 hX (dk DX12_takesE_0 9 rfl) ?_
  refine g_getIv hX (dk DX12_takesE_0 10 rfl) KX12 fX12_95 (by decide) rfl (MLt hM (by decide)) (MC hM) ((show _ = nI fr from h28)) ?_
  refine i_iastore hX (dk DX12_takesE_0 11 rfl) (MLt hM (q := 13) (by decide)) (MS hM 13 (by decide) rfl) (⟨rfl, hc, by decide⟩) ?_
  refine g_iconst (v := 1) hX (dk DX12_takesE_0 12 rfl) (by decide) ?_
  refine g_istore_2 hX (dk DX12_takesE_0 13 rfl) (by decide) rfl ?_
  exact g_fgt (loop22 101 true a [] [] _ (by omega) (fun _ z => absurd z List.not_mem_nil) (MZ.start hT hA h28 h1 h2) rfl) ⟨rfl, rfl, rfl, trivial⟩
end
section
/-! clauses and the text, as they lie in memory -/
theorem twA_le {X : Nat → Int32} {n f : Nat} : ∀ (m i a : Nat), f + i + m ≤ 15 → a ≤ n → a ≤ (twA X n f m i a).2 ∧ (twA X n f m i a).2 ≤ n := by
  intro m
  induction m with
  | zero =>
    intro i a _ ha
    show a ≤ tkA X n a 32 ∧ tkA X n a 32 ≤ n
    unfold tkA
    split
    · next h => have := nxA_no (by decide) h; omega
    · omega
  | succ m ih =>
    intro i a h ha
    rw [twA_s]
    split
    · next e =>
      have := nxA_no (let_no (f + i) (by omega)) e
      have := ih (i + 1) (a + 1) (by omega) (by omega)
      omega
    · exact ⟨Nat.le_refl _, ha⟩
theorem hdA_le {X : Nat → Int32} {n a : Nat} (ha : a ≤ n) : a ≤ (hdA X n a).2.1 ∧ (hdA X n a).2.1 ≤ n := by
  unfold hdA
  split
  · split
    · exact twA_le 4 0 a (by decide) ha
    · exact twA_le 4 0 a (by decide) ha
  · split
    · exact twA_le 3 0 a (by decide) ha
    · exact twA_le 4 0 a (by decide) ha
section CL
variable {X : Nat → Int32} {n a : Nat}
theorem cl_h (h : ¬ (hdA X n a).1 = true) : clA X n a = (false, (hdA X n a).2.1, 0, 0, []) := by
  unfold clA
  rw [if_pos (Bool.not_eq_true _ ▸ h)]
theorem cl_n (h : (hdA X n a).1 = true) (h2 : ¬ dgA X n (hdA X n a).2.1) : clA X n a = (false, (hdA X n a).2.1, 0, 0, []) := by
  unfold clA
  rw [if_neg (by rw [h]; decide), if_pos h2]
theorem cl_w (h : (hdA X n a).1 = true) (h2 : dgA X n (hdA X n a).2.1) (h3 : 1 < (hdA X n a).2.2) : clA X n a = (true, nuA X n (hdA X n a).2.1, (hdA X n a).2.2, nvA X n (hdA X n a).2.1, []) := by
  unfold clA
  rw [if_neg (by rw [h]; decide), if_neg (not_not_intro h2), if_pos h3]
theorem cl_s (h : (hdA X n a).1 = true) (h2 : dgA X n (hdA X n a).2.1) (h3 : ¬ 1 < (hdA X n a).2.2) (h4 : ¬ nxA X n (nuA X n (hdA X n a).2.1) = 32) : clA X n a = (false, nuA X n (hdA X n a).2.1, 0, 0, []) := by
  unfold clA
  rw [if_neg (by rw [h]; decide), if_neg (not_not_intro h2), if_neg h3, if_neg h4]
theorem cl_E (h : (hdA X n a).1 = true) (h2 : dgA X n (hdA X n a).2.1) (h3 : ¬ 1 < (hdA X n a).2.2) (h4 : nxA X n (nuA X n (hdA X n a).2.1) = 32) : clA X n a = ((amR X n 101 true (nuA X n (hdA X n a).2.1 + 1) [] []).1, (amR X n 101 true (nuA X n (hdA X n a).2.1 + 1) [] []).2.1, (hdA X n a).2.2, nvA X n (hdA X n a).2.1, (amR X n 101 true (nuA X n (hdA X n a).2.1 + 1) [] []).2.2) := by
  unfold clA
  rw [if_neg (by rw [h]; decide), if_neg (not_not_intro h2), if_neg h3, if_pos h4]
end CL
theorem FC.rf {p c fr : Nat} {I : It} : FC p c fr I I := ⟨fun _ _ => rfl, fun _ _ => rfl, fun _ _ => ⟨rfl, rfl, rfl, rfl⟩, fun _ _ => rfl⟩
theorem FC.f {p c fr : Nat} {I J : It} {j : Nat} {x : Int32} (h : FC p c fr I J) (hj : j ∈ [18, 19, 28, 29, 30]) : FC p c fr I (upI J 0 j x) :=
  ⟨fun b hb => (upn (fun z => hb (by rw [z.2]; exact hj))).trans (h.1 b hb), fun a ha => (upI_off (by rintro rfl; revert ha; decide)).trans (h.2.1 a ha), h.2.2.1, h.2.2.2⟩
theorem FC.w11 {p c fr : Nat} {I J : It} {x : Int32} (h : FC p c fr I J) : FC p c fr I (upI J 11 c x) :=
  ⟨h.1, fun a ha => (upI_off (by rintro rfl; revert ha; decide)).trans (h.2.1 a ha), fun b hb => ⟨(upn (fun z => hb z.2)).trans (h.2.2.1 b hb).1, (h.2.2.1 b hb).2⟩, h.2.2.2⟩
theorem FC.w12 {p c fr : Nat} {I J : It} {x : Int32} (h : FC p c fr I J) : FC p c fr I (upI J 12 c x) :=
  ⟨h.1, fun a ha => (upI_off (by rintro rfl; revert ha; decide)).trans (h.2.1 a ha), fun b hb => ⟨(h.2.2.1 b hb).1, (upn (fun z => hb z.2)).trans (h.2.2.1 b hb).2.1, (h.2.2.1 b hb).2.2⟩, h.2.2.2⟩
theorem FC.tr {p c fr : Nat} {I J K : It} (h : FC p c fr I J) (h2 : FC p c fr J K) : FC p c fr I K :=
  ⟨fun j hj => (h2.1 j hj).trans (h.1 j hj), fun a ha => (h2.2.1 a ha).trans (h.2.1 a ha), fun b hb => ⟨(h2.2.2.1 b hb).1.trans (h.2.2.1 b hb).1, (h2.2.2.1 b hb).2.1.trans (h.2.2.1 b hb).2.1, (h2.2.2.1 b hb).2.2.1.trans (h.2.2.1 b hb).2.2.1, (h2.2.2.1 b hb).2.2.2.trans (h.2.2.1 b hb).2.2.2⟩, fun b hb => (h2.2.2.2 b hb).trans (h.2.2.2 b hb)⟩
def CLr (J : It) (c fr : Nat) (k : Cl) : Prop := J 11 c = k.1 ∧ J 12 c = k.2.1 ∧ (¬ 1 < k.1 → J 13 c = nI fr ∧ J 14 c = nI (fr + k.2.2.length) ∧ CD fr J k.2.2)
def tot : List Cl → Nat := fun l => match l with
  | [] => 0
  | x :: r => x.2.2.length + tot r
theorem tot_c (x : Cl) (r : List Cl) : tot (x :: r) = x.2.2.length + tot r := rfl
theorem tot_app (l : List Cl) (x : Cl) : tot (l ++ [x]) = tot l + x.2.2.length := by
  induction l with
  | nil => show x.2.2.length + 0 = 0 + x.2.2.length; omega
  | cons y r ih => rw [List.cons_append, tot_c, tot_c, ih]; omega
def STc (J : It) (p : Nat) : List Cl → Nat → Nat → Prop := fun l => match l with
  | [] => fun _ _ => True
  | x :: r => fun k fr => CLr J (10 * p + k) fr x ∧ STc J p r (k + 1) (fr + x.2.2.length)
theorem STc_app {J : It} {p : Nat} {x : Cl} : ∀ {l : List Cl} {k fr : Nat}, STc J p l k fr → CLr J (10 * p + (k + l.length)) (fr + tot l) x → STc J p (l ++ [x]) k fr := by
  intro l
  induction l with
  | nil => intro k fr _ h; exact ⟨h, trivial⟩
  | cons y r ih =>
    intro k fr h hx
    refine ⟨h.1, ih h.2 ?_⟩
    rw [tot_c, List.length_cons] at hx
    rw [show 10 * p + (k + 1 + r.length) = 10 * p + (k + (r.length + 1)) by omega, show fr + y.2.2.length + tot r = fr + (y.2.2.length + tot r) by omega]
    exact hx
theorem STc_mv {J K : It} {p : Nat} : ∀ {l : List Cl} {k fr : Nat}, STc J p l k fr → (∀ c, 10 * p + k ≤ c → c < 10 * p + k + l.length → K 11 c = J 11 c ∧ K 12 c = J 12 c ∧ K 13 c = J 13 c ∧ K 14 c = J 14 c) → (∀ j, fr ≤ j → j < fr + tot l → K 15 j = J 15 j) → STc K p l k fr := by
  intro l
  induction l with
  | nil => intro k fr _ _ _; trivial
  | cons y r ih =>
    intro k fr h h1 h2
    rw [List.length_cons] at h1
    rw [tot_c] at h2
    obtain ⟨e1, e2, e3, e4⟩ := h1 (10 * p + k) (by omega) (by omega)
    refine ⟨⟨e1.trans h.1.1, e2.trans h.1.2.1, fun w => ?_⟩, ih h.2 (fun c a1 a2 => h1 c (by omega) (by omega)) (fun j a1 a2 => h2 j (by omega) (by omega))⟩
    obtain ⟨g1, g2, g3⟩ := h.1.2.2 w
    exact ⟨e3.trans g1, e4.trans g2, fun i hi => (h2 _ (by omega) (by omega)).trans (g3 i hi)⟩
/-- what a whole text may have written: row p -/
def FG (p : Nat) (I J : It) : Prop := (∀ j, j ∉ [18, 19, 28, 29, 30] → J 0 j = I 0 j) ∧ (∀ a, a ∉ [0, 10, 11, 12, 13, 14, 15, 16] → J a = I a) ∧ (∀ j, j ≠ p → J 10 j = I 10 j) ∧ (∀ j, (j < 10 * p ∨ 10 * p + 10 ≤ j) → J 11 j = I 11 j ∧ J 12 j = I 12 j ∧ J 13 j = I 13 j ∧ J 14 j = I 14 j) ∧ ∀ j, (j < 100 * p ∨ 100 * p + 100 ≤ j) → J 15 j = I 15 j
theorem FG.f {p : Nat} {I J : It} {j : Nat} {x : Int32} (h : FG p I J) (hj : j ∈ [18, 19, 28, 29, 30]) : FG p I (upI J 0 j x) :=
  ⟨fun b hb => (upn (fun z => hb (by rw [z.2]; exact hj))).trans (h.1 b hb), fun a ha => (upI_off (by rintro rfl; revert ha; decide)).trans (h.2.1 a ha), h.2.2.1, h.2.2.2.1, h.2.2.2.2⟩
theorem FG.rf {p : Nat} {I : It} : FG p I I := ⟨fun _ _ => rfl, fun _ _ => rfl, fun _ _ => rfl, fun _ _ => ⟨rfl, rfl, rfl, rfl⟩, fun _ _ => rfl⟩
theorem FG.w10 {p : Nat} {I J : It} {x : Int32} (h : FG p I J) : FG p I (upI J 10 p x) :=
  ⟨h.1, fun a ha => (upI_off (by rintro rfl; revert ha; decide)).trans (h.2.1 a ha), fun b hb => (upn (fun z => hb z.2)).trans (h.2.2.1 b hb), h.2.2.2.1, h.2.2.2.2⟩
theorem FG.c {p c fr : Nat} {I J K : It} (h : FG p I J) (h2 : FC p c fr J K) (hc : 10 * p ≤ c ∧ c < 10 * p + 10) (hf : 100 * p ≤ fr) : FG p I K :=
  ⟨fun j hj => (h2.1 j hj).trans (h.1 j hj), fun a ha => (h2.2.1 a (by revert ha; simp; omega)).trans (h.2.1 a ha), fun j hj => (congrFun (h2.2.1 10 (by decide)) j).trans (h.2.2.1 j hj), fun j hj => by
    obtain ⟨e1, e2, e3, e4⟩ := h2.2.2.1 j (by omega)
    obtain ⟨g1, g2, g3, g4⟩ := h.2.2.2.1 j hj
    exact ⟨e1.trans g1, e2.trans g2, e3.trans g3, e4.trans g4⟩, fun j hj => (h2.2.2.2 j (by omega)).trans (h.2.2.2.2 j hj)⟩
theorem am_le {X : Nat → Int32} {n : Nat} : ∀ (f : Nat) (w : Bool) (a : Nat) (cs ws : List Int32), a ≤ n → a ≤ (amR X n f w a cs ws).2.1 ∧ (amR X n f w a cs ws).2.1 ≤ n := by
  intro f
  induction f with
  | zero => intro w a cs ws ha; exact ⟨Nat.le_refl _, ha⟩
  | succ f ih =>
    intro w a cs ws ha
    cases w with
    | true =>
      by_cases h : nxA X n a = 33 ∨ nxA X n a = 40
      · have hlt : a < n := by rcases h with z | z <;> exact nxA_no (by decide) z
        by_cases h4 : opn ws = 4
        · rw [am_o4 h h4]; exact ⟨Nat.le_refl _, ha⟩
        · rw [am_o h h4]; have := ih true (a + 1) cs (nxA X n a :: ws) hlt; omega
      · have ht : a ≤ (tsA X n a).2.1 ∧ (tsA X n a).2.1 ≤ n := by
          unfold tsA
          split
          · exact ⟨Nat.le_refl _, ha⟩
          · next z => 
            have := pl_lt (Int32.not_lt.mp z)
            split
            · show a ≤ a + 1 ∧ a + 1 ≤ n; omega
            · next z => 
              have := in_lt (Decidable.not_not.mp z)
              split
              · show a ≤ a + 2 ∧ a + 2 ≤ n; omega
              · next z =>
                have := nuA_le (X := X) (n := n) (a := a + 2) (by omega)
                have := nuA_gt (Decidable.not_not.mp z)
                show a ≤ nuA X n (a + 2) ∧ nuA X n (a + 2) ≤ n
                omega
        by_cases h4 : (tsA X n a).1 = true
        · rw [am_t h h4]; have := ih false (tsA X n a).2.1 (whA ws (cs ++ [(tsA X n a).2.2])).1 (whA ws (cs ++ [(tsA X n a).2.2])).2 ht.2; omega
        · rw [am_tf h h4]; exact ht
    | false =>
      by_cases h : nxA X n a = 38 ∨ nxA X n a = 124
      · have hlt : a < n := by rcases h with z | z <;> exact nxA_no (by decide) z
        rw [am_b h]; have := ih true (a + 1) (seA (nxA X n a) ws cs).1 (nxA X n a :: (seA (nxA X n a) ws cs).2) hlt; omega
      · by_cases h2 : (seA 124 ws cs).2 = []
        · rw [am_e h h2]; exact ⟨Nat.le_refl _, ha⟩
        · by_cases h3 : nxA X n a = 41
          · have hlt : a < n := nxA_no (by decide) h3
            rw [am_c h h2 h3]; have := ih false (a + 1) (whA (seA 124 ws cs).2.tail (seA 124 ws cs).1).1 (whA (seA 124 ws cs).2.tail (seA 124 ws cs).1).2 hlt; omega
          · rw [am_x h h2 h3]; exact ⟨Nat.le_refl _, ha⟩

set_option maxRecDepth 8000 in
set_option maxHeartbeats 4000000 in
theorem q_takesHead {G : Gt} (hG : Gok G) {I : It} {h : Ht} (hM : HM h) {tx : Nat → Int32} {n a : Nat} (hT : TX tx n I) (hA : AT n a I) {c : Nat} (hc : c < 60) (hL : ∀ j, j < 15 → I 17 j = lettersL.getD j 0) : Con G (4) 0 0 mX12_takesHead [.ref 0, .int (nI c)] I h (qI (fun v J h2 => h2 = h ∧ v = bI ((hdA tx n a).1 = true) ∧ J = upI (upI I 11 c (hdA tx n a).2.2) 0 18 (nI (hdA tx n a).2.1))) := by
  refine con_intro (own := RX12) (lo0 := [some (.ref 0), some (.int (nI c)), none]) hG rfl pl_X12 (Nat.le_of_ble_eq_true rfl) rfl (fun X hX => ?_)
  have hn100 := hT.2.1
  have han := hA.2
  refine g_aload_0 hX (dk DX12_takesHead 0 rfl) ?_
  refine g_c1I hX sX12_takesHead_1 (by decide) (Nat.le_of_ble_eq_true rfl) (rc0 rfl (MLt hM (by decide)) (MC hM)) (by decide) (by decide) (q_second hG hM hT hA) ?_
  refine g_istore_2 hX (dk DX12_takesHead 2 rfl) (by decide) rfl ?_
  refine g_aload_0 hX (dk DX12_takesHead 3 rfl) ?_
  refine g_c1I hX sX12_takesHead_6 (by decide) (Nat.le_of_ble_eq_true rfl) (rc0 rfl (MLt hM (by decide)) (MC hM)) (by decide) (by decide) (q_next hG hM hT hA) ?_
  refine g_lswitch (dt := 90) hX [(99, 50), (115, 36)] (dk DX12_takesHead 5 rfl) (by decide +kernel) (by decide +kernel) ?_
  refine ⟨fun hc1 => ?_, fun hc1n => ?_⟩
  · show GG _ _ _ _ _ _ _ _ _ _ _ _ _
    refine g_aload_0 hX (dk DX12_takesHead 16 rfl) ?_
    refine g_getRs (r := 11) hX (dk DX12_takesHead 17 rfl) KX12 fX12_77 (by decide) rfl (MLt hM (by decide)) (MC hM) (MR hM 22 (by decide) rfl) ?_
    refine g_iload_1 hX (dk DX12_takesHead 18 rfl) ?_
    refine g_iload_2 hX (dk DX12_takesHead 19 rfl) ?_
    refine g_bipush (v := 97) hX (dk DX12_takesHead 20 rfl) (by decide) ?_
    refine g_icmp_ne (tgt := 65) hX (dk DX12_takesHead 21 rfl) (by decide) (fun hc2 => ?_) (fun hc2 => ?_)
    · refine g_iconst (v := 1) hX (dk DX12_takesHead 24 rfl) (by decide) ?_
      refine i_iastore hX (dk DX12_takesHead 25 rfl) (MLt hM (q := 11) (by decide)) (MS hM 11 (by decide) rfl) (⟨rfl, hc, by decide⟩) ?_
      refine g_iload_2 hX (dk DX12_takesHead 26 rfl) ?_
      refine g_bipush (v := 97) hX (dk DX12_takesHead 27 rfl) (by decide) ?_
      refine g_icmp_ne (tgt := 83) hX (dk DX12_takesHead 28 rfl) (by decide) (fun hc3 => ?_) (fun hc3 => ?_)
      · refine g_aload_0 hX (dk DX12_takesHead 34 rfl) ?_
        refine g_iconst (v := 3) hX (dk DX12_takesHead 35 rfl) (by decide) ?_
        refine g_iconst (v := 4) hX (dk DX12_takesHead 36 rfl) (by decide) ?_
        refine g_c3I hX sX12_takesHead_86 (by decide) (Nat.le_of_ble_eq_true rfl) (rc0 rfl (MLt hM (by decide)) (MC hM)) (by decide) (by decide) (q_takesWord hG hM (hT.u (q := 11) (j := c) (by omega) (by decide)) (hA.u (by omega)) (f := 3) (m := 4) (by decide) (fun j hj => hL j hj)) ?_
        refine g_ireturn hX (dk DX12_takesHead 38 rfl) rfl (narB _) (by decide) (by decide) ?_
        first
        | contradiction
        | (have e : hdA tx n a = ((twA tx n 7 4 0 a).1, (twA tx n 7 4 0 a).2, 2) := by unfold hdA; (try first | rw [if_pos hc1] | rw [if_neg hc1] | rw [if_neg (not_not_intro hc1)]); (try first | rw [if_pos hc2] | rw [if_neg hc2] | rw [if_neg (not_not_intro hc2)]); (try first | rw [if_pos hc3] | rw [if_neg hc3] | rw [if_neg (not_not_intro hc3)]); (try first | rw [if_pos hc1] | rw [if_neg hc1] | rw [if_neg (not_not_intro hc1)]); (try first | rw [if_pos hc2] | rw [if_neg hc2] | rw [if_neg (not_not_intro hc2)]); (try first | rw [if_pos hc3] | rw [if_neg hc3] | rw [if_neg (not_not_intro hc3)]); first | done | rfl
           rw [e]
           exact qI_of ⟨rfl, rfl, rfl⟩)
        | contradiction
        | (have e : hdA tx n a = ((twA tx n 3 4 0 a).1, (twA tx n 3 4 0 a).2, 1) := by unfold hdA; (try first | rw [if_pos hc1] | rw [if_neg hc1] | rw [if_neg (not_not_intro hc1)]); (try first | rw [if_pos hc2] | rw [if_neg hc2] | rw [if_neg (not_not_intro hc2)]); (try first | rw [if_pos hc3] | rw [if_neg hc3] | rw [if_neg (not_not_intro hc3)]); (try first | rw [if_pos hc1] | rw [if_neg hc1] | rw [if_neg (not_not_intro hc1)]); (try first | rw [if_pos hc2] | rw [if_neg hc2] | rw [if_neg (not_not_intro hc2)]); (try first | rw [if_pos hc3] | rw [if_neg hc3] | rw [if_neg (not_not_intro hc3)]); first | done | rfl
           rw [e]
           exact qI_of ⟨rfl, rfl, rfl⟩)
      · refine g_aload_0 hX (dk DX12_takesHead 29 rfl) ?_
        refine g_bipush (v := 7) hX (dk DX12_takesHead 30 rfl) (by decide) ?_
        refine g_iconst (v := 4) hX (dk DX12_takesHead 31 rfl) (by decide) ?_
        refine g_c3I hX sX12_takesHead_77 (by decide) (Nat.le_of_ble_eq_true rfl) (rc0 rfl (MLt hM (by decide)) (MC hM)) (by decide) (by decide) (q_takesWord hG hM (hT.u (q := 11) (j := c) (by omega) (by decide)) (hA.u (by omega)) (f := 7) (m := 4) (by decide) (fun j hj => hL j hj)) ?_
        refine g_goto (tgt := 89) hX (dk DX12_takesHead 33 rfl) (by decide) ?_
        refine g_ireturn hX (dk DX12_takesHead 38 rfl) rfl (narB _) (by decide) (by decide) ?_
        first
        | contradiction
        | (have e : hdA tx n a = ((twA tx n 7 4 0 a).1, (twA tx n 7 4 0 a).2, 2) := by unfold hdA; (try first | rw [if_pos hc1] | rw [if_neg hc1] | rw [if_neg (not_not_intro hc1)]); (try first | rw [if_pos hc2] | rw [if_neg hc2] | rw [if_neg (not_not_intro hc2)]); (try first | rw [if_pos hc3] | rw [if_neg hc3] | rw [if_neg (not_not_intro hc3)]); (try first | rw [if_pos hc1] | rw [if_neg hc1] | rw [if_neg (not_not_intro hc1)]); (try first | rw [if_pos hc2] | rw [if_neg hc2] | rw [if_neg (not_not_intro hc2)]); (try first | rw [if_pos hc3] | rw [if_neg hc3] | rw [if_neg (not_not_intro hc3)]); first | done | rfl
           rw [e]
           exact qI_of ⟨rfl, rfl, rfl⟩)
        | contradiction
        | (have e : hdA tx n a = ((twA tx n 3 4 0 a).1, (twA tx n 3 4 0 a).2, 1) := by unfold hdA; (try first | rw [if_pos hc1] | rw [if_neg hc1] | rw [if_neg (not_not_intro hc1)]); (try first | rw [if_pos hc2] | rw [if_neg hc2] | rw [if_neg (not_not_intro hc2)]); (try first | rw [if_pos hc3] | rw [if_neg hc3] | rw [if_neg (not_not_intro hc3)]); (try first | rw [if_pos hc1] | rw [if_neg hc1] | rw [if_neg (not_not_intro hc1)]); (try first | rw [if_pos hc2] | rw [if_neg hc2] | rw [if_neg (not_not_intro hc2)]); (try first | rw [if_pos hc3] | rw [if_neg hc3] | rw [if_neg (not_not_intro hc3)]); first | done | rfl
           rw [e]
           exact qI_of ⟨rfl, rfl, rfl⟩)
    · refine g_iconst (v := 2) hX (dk DX12_takesHead 22 rfl) (by decide) ?_
      refine g_goto (tgt := 66) hX (dk DX12_takesHead 23 rfl) (by decide) ?_
      refine i_iastore hX (dk DX12_takesHead 25 rfl) (MLt hM (q := 11) (by decide)) (MS hM 11 (by decide) rfl) (⟨rfl, hc, by decide⟩) ?_
      refine g_iload_2 hX (dk DX12_takesHead 26 rfl) ?_
      refine g_bipush (v := 97) hX (dk DX12_takesHead 27 rfl) (by decide) ?_
      refine g_icmp_ne (tgt := 83) hX (dk DX12_takesHead 28 rfl) (by decide) (fun hc4 => ?_) (fun hc4 => ?_)
      · refine g_aload_0 hX (dk DX12_takesHead 34 rfl) ?_
        refine g_iconst (v := 3) hX (dk DX12_takesHead 35 rfl) (by decide) ?_
        refine g_iconst (v := 4) hX (dk DX12_takesHead 36 rfl) (by decide) ?_
        refine g_c3I hX sX12_takesHead_86 (by decide) (Nat.le_of_ble_eq_true rfl) (rc0 rfl (MLt hM (by decide)) (MC hM)) (by decide) (by decide) (q_takesWord hG hM (hT.u (q := 11) (j := c) (by omega) (by decide)) (hA.u (by omega)) (f := 3) (m := 4) (by decide) (fun j hj => hL j hj)) ?_
        refine g_ireturn hX (dk DX12_takesHead 38 rfl) rfl (narB _) (by decide) (by decide) ?_
        first
        | contradiction
        | (have e : hdA tx n a = ((twA tx n 7 4 0 a).1, (twA tx n 7 4 0 a).2, 2) := by unfold hdA; (try first | rw [if_pos hc1] | rw [if_neg hc1] | rw [if_neg (not_not_intro hc1)]); (try first | rw [if_pos hc2] | rw [if_neg hc2] | rw [if_neg (not_not_intro hc2)]); (try first | rw [if_pos hc4] | rw [if_neg hc4] | rw [if_neg (not_not_intro hc4)]); (try first | rw [if_pos hc1] | rw [if_neg hc1] | rw [if_neg (not_not_intro hc1)]); (try first | rw [if_pos hc2] | rw [if_neg hc2] | rw [if_neg (not_not_intro hc2)]); (try first | rw [if_pos hc4] | rw [if_neg hc4] | rw [if_neg (not_not_intro hc4)]); first | done | rfl
           rw [e]
           exact qI_of ⟨rfl, rfl, rfl⟩)
        | contradiction
        | (have e : hdA tx n a = ((twA tx n 3 4 0 a).1, (twA tx n 3 4 0 a).2, 1) := by unfold hdA; (try first | rw [if_pos hc1] | rw [if_neg hc1] | rw [if_neg (not_not_intro hc1)]); (try first | rw [if_pos hc2] | rw [if_neg hc2] | rw [if_neg (not_not_intro hc2)]); (try first | rw [if_pos hc4] | rw [if_neg hc4] | rw [if_neg (not_not_intro hc4)]); (try first | rw [if_pos hc1] | rw [if_neg hc1] | rw [if_neg (not_not_intro hc1)]); (try first | rw [if_pos hc2] | rw [if_neg hc2] | rw [if_neg (not_not_intro hc2)]); (try first | rw [if_pos hc4] | rw [if_neg hc4] | rw [if_neg (not_not_intro hc4)]); first | done | rfl
           rw [e]
           exact qI_of ⟨rfl, rfl, rfl⟩)
      · refine g_aload_0 hX (dk DX12_takesHead 29 rfl) ?_
        refine g_bipush (v := 7) hX (dk DX12_takesHead 30 rfl) (by decide) ?_
        refine g_iconst (v := 4) hX (dk DX12_takesHead 31 rfl) (by decide) ?_
        refine g_c3I hX sX12_takesHead_77 (by decide) (Nat.le_of_ble_eq_true rfl) (rc0 rfl (MLt hM (by decide)) (MC hM)) (by decide) (by decide) (q_takesWord hG hM (hT.u (q := 11) (j := c) (by omega) (by decide)) (hA.u (by omega)) (f := 7) (m := 4) (by decide) (fun j hj => hL j hj)) ?_
        refine g_goto (tgt := 89) hX (dk DX12_takesHead 33 rfl) (by decide) ?_
        refine g_ireturn hX (dk DX12_takesHead 38 rfl) rfl (narB _) (by decide) (by decide) ?_
        first
        | contradiction
        | (have e : hdA tx n a = ((twA tx n 7 4 0 a).1, (twA tx n 7 4 0 a).2, 2) := by unfold hdA; (try first | rw [if_pos hc1] | rw [if_neg hc1] | rw [if_neg (not_not_intro hc1)]); (try first | rw [if_pos hc2] | rw [if_neg hc2] | rw [if_neg (not_not_intro hc2)]); (try first | rw [if_pos hc4] | rw [if_neg hc4] | rw [if_neg (not_not_intro hc4)]); (try first | rw [if_pos hc1] | rw [if_neg hc1] | rw [if_neg (not_not_intro hc1)]); (try first | rw [if_pos hc2] | rw [if_neg hc2] | rw [if_neg (not_not_intro hc2)]); (try first | rw [if_pos hc4] | rw [if_neg hc4] | rw [if_neg (not_not_intro hc4)]); first | done | rfl
           rw [e]
           exact qI_of ⟨rfl, rfl, rfl⟩)
        | contradiction
        | (have e : hdA tx n a = ((twA tx n 3 4 0 a).1, (twA tx n 3 4 0 a).2, 1) := by unfold hdA; (try first | rw [if_pos hc1] | rw [if_neg hc1] | rw [if_neg (not_not_intro hc1)]); (try first | rw [if_pos hc2] | rw [if_neg hc2] | rw [if_neg (not_not_intro hc2)]); (try first | rw [if_pos hc4] | rw [if_neg hc4] | rw [if_neg (not_not_intro hc4)]); (try first | rw [if_pos hc1] | rw [if_neg hc1] | rw [if_neg (not_not_intro hc1)]); (try first | rw [if_pos hc2] | rw [if_neg hc2] | rw [if_neg (not_not_intro hc2)]); (try first | rw [if_pos hc4] | rw [if_neg hc4] | rw [if_neg (not_not_intro hc4)]); first | done | rfl
           rw [e]
           exact qI_of ⟨rfl, rfl, rfl⟩)
  refine ⟨fun hc5 => ?_, fun hc5n => ?_⟩
  · show GG _ _ _ _ _ _ _ _ _ _ _ _ _
    refine g_aload_0 hX (dk DX12_takesHead 6 rfl) ?_
    refine g_getRs (r := 11) hX (dk DX12_takesHead 7 rfl) KX12 fX12_77 (by decide) rfl (MLt hM (by decide)) (MC hM) (MR hM 22 (by decide) rfl) ?_
    refine g_iload_1 hX (dk DX12_takesHead 8 rfl) ?_
    refine g_iconst (v := 0) hX (dk DX12_takesHead 9 rfl) (by decide) ?_
    refine i_iastore hX (dk DX12_takesHead 10 rfl) (MLt hM (q := 11) (by decide)) (MS hM 11 (by decide) rfl) (⟨rfl, hc, by decide⟩) ?_
    refine g_aload_0 hX (dk DX12_takesHead 11 rfl) ?_
    refine g_iconst (v := 0) hX (dk DX12_takesHead 12 rfl) (by decide) ?_
    refine g_iconst (v := 3) hX (dk DX12_takesHead 13 rfl) (by decide) ?_
    refine g_c3I hX sX12_takesHead_46 (by decide) (Nat.le_of_ble_eq_true rfl) (rc0 rfl (MLt hM (by decide)) (MC hM)) (by decide) (by decide) (q_takesWord hG hM (hT.u (q := 11) (j := c) (by omega) (by decide)) (hA.u (by omega)) (f := 0) (m := 3) (by decide) (fun j hj => hL j hj)) ?_
    refine g_ireturn hX (dk DX12_takesHead 15 rfl) rfl (narB _) (by decide) (by decide) ?_
    first
    | contradiction
    | (have e : hdA tx n a = ((twA tx n 0 3 0 a).1, (twA tx n 0 3 0 a).2, 0) := by unfold hdA; (try first | rw [if_pos hc1n] | rw [if_neg hc1n] | rw [if_neg (not_not_intro hc1n)]); (try first | rw [if_pos hc5] | rw [if_neg hc5] | rw [if_neg (not_not_intro hc5)]); (try first | rw [if_pos hc1n] | rw [if_neg hc1n] | rw [if_neg (not_not_intro hc1n)]); (try first | rw [if_pos hc5] | rw [if_neg hc5] | rw [if_neg (not_not_intro hc5)]); first | done | rfl
       rw [e]
       exact qI_of ⟨rfl, rfl, rfl⟩)
  show GG _ _ _ _ _ _ _ _ _ _ _ _ _
  refine g_aload_0 hX (dk DX12_takesHead 39 rfl) ?_
  refine g_getRs (r := 11) hX (dk DX12_takesHead 40 rfl) KX12 fX12_77 (by decide) rfl (MLt hM (by decide)) (MC hM) (MR hM 22 (by decide) rfl) ?_
  refine g_iload_1 hX (dk DX12_takesHead 41 rfl) ?_
  refine g_iconst (v := 3) hX (dk DX12_takesHead 42 rfl) (by decide) ?_
  refine i_iastore hX (dk DX12_takesHead 43 rfl) (MLt hM (q := 11) (by decide)) (MS hM 11 (by decide) rfl) (⟨rfl, hc, by decide⟩) ?_
  refine g_aload_0 hX (dk DX12_takesHead 44 rfl) ?_
  refine g_bipush (v := 11) hX (dk DX12_takesHead 45 rfl) (by decide) ?_
  refine g_iconst (v := 4) hX (dk DX12_takesHead 46 rfl) (by decide) ?_
  refine g_c3I hX sX12_takesHead_101 (by decide) (Nat.le_of_ble_eq_true rfl) (rc0 rfl (MLt hM (by decide)) (MC hM)) (by decide) (by decide) (q_takesWord hG hM (hT.u (q := 11) (j := c) (by omega) (by decide)) (hA.u (by omega)) (f := 11) (m := 4) (by decide) (fun j hj => hL j hj)) ?_
  refine g_ireturn hX (dk DX12_takesHead 48 rfl) rfl (narB _) (by decide) (by decide) ?_
  first
  | contradiction
  | (have e : hdA tx n a = ((twA tx n 11 4 0 a).1, (twA tx n 11 4 0 a).2, 3) := by unfold hdA; (try first | rw [if_pos hc1n] | rw [if_neg hc1n] | rw [if_neg (not_not_intro hc1n)]); (try first | rw [if_pos hc5n] | rw [if_neg hc5n] | rw [if_neg (not_not_intro hc5n)]); (try first | rw [if_pos hc1n] | rw [if_neg hc1n] | rw [if_neg (not_not_intro hc1n)]); (try first | rw [if_pos hc5n] | rw [if_neg hc5n] | rw [if_neg (not_not_intro hc5n)]); first | done | rfl
     rw [e]
     exact qI_of ⟨rfl, rfl, rfl⟩)
end
section
set_option maxRecDepth 8000 in
set_option maxHeartbeats 4000000 in
theorem q_takesClause {G : Gt} (hG : Gok G) {I : It} {h : Ht} (hM : HM h) {p c fr : Nat} {tx : Nat → Int32} {n a : Nat} (hp : p < 6) (hc : c < 60) (hT : TX tx n I) (hA : AT n a I) (h28 : I 0 28 = nI fr) (h1 : 100 * p ≤ fr) (h2 : fr ≤ 100 * p + a) (hL : ∀ j, j < 15 → I 17 j = lettersL.getD j 0)  : Con G (7) 0 0 mX12_takesClause [.ref 0, .int (nI c)] I h (qI (fun v J h2 => h2 = h ∧ v = bI ((clA tx n a).1 = true) ∧ FC p c fr I J ∧ TX tx n J ∧ AT n (clA tx n a).2.1 J ∧ ((clA tx n a).1 = true → CLr J c fr (clA tx n a).2.2 ∧ J 0 28 = nI (fr + (clA tx n a).2.2.2.2.length) ∧ fr + (clA tx n a).2.2.2.2.length ≤ 100 * p + (clA tx n a).2.1))) := by
  refine con_intro (own := RX12) (lo0 := [some (.ref 0), some (.int (nI c))]) hG rfl pl_X12 (Nat.le_of_ble_eq_true rfl) rfl (fun X hX => ?_)
  have hn100 := hT.2.1
  have han := hA.2
  have hhd := hdA_le (X := tx) han
  refine g_aload_0 hX (dk DX12_takesClause 0 rfl) ?_
  refine g_iload_1 hX (dk DX12_takesClause 1 rfl) ?_
  refine g_c2q hX sX12_takesClause_2 (by decide) (Nat.le_of_ble_eq_true rfl) (rc0 rfl (MLt hM (by decide)) (MC hM)) (by decide) (by decide) (q_takesHead hG hM hT hA hc hL) ?_
  rintro v J9 h9 ⟨rfl, rfl, rfl⟩
  refine g_ifb_eq (tgt := 15) hX (dk DX12_takesClause 3 rfl) (by decide) (fun hc1 => ?_) (fun hc1 => ?_)
  · refine g_iconst (v := 0) hX (dk DX12_takesClause 7 rfl) (by decide) ?_
    refine g_ireturn hX (dk DX12_takesClause 8 rfl) rfl (by decide) (by decide) (by decide) ?_
    first
    | (have e := cl_h (X := tx) (n := n) (a := a) (by assumption)
       rw [e]
       exact qI_of ⟨rfl, rfl, ((FC.rf.w11).f (by decide)), (hT.u (q := 11) (j := c) (by omega) (by decide)).w, (AT.w hhd.2), fun z => absurd (show false = true from z) Bool.false_ne_true⟩)
    | (have e := cl_n (X := tx) (n := n) (a := a) hh (by assumption)
       rw [e, if_neg (by assumption)]
       exact qI_of ⟨rfl, rfl, ((FC.rf.w11).f (by decide)), (hT.u (q := 11) (j := c) (by omega) (by decide)).w, (AT.w hhd.2), fun z => absurd (show false = true from z) Bool.false_ne_true⟩)
  · have hh := hc1
    refine g_aload_0 hX (dk DX12_takesClause 4 rfl) ?_
    refine g_c1q hX sX12_takesClause_9 (by decide) (Nat.le_of_ble_eq_true rfl) (rc0 rfl (MLt hM (by decide)) (MC hM)) (by decide) (by decide) (q_takesNumber hG hM (a := (hdA tx n a).2.1) ((hT.u (q := 11) (j := c) (by omega) (by decide)).w) (AT.w hhd.2)) ?_
    rintro v J9 h9 ⟨rfl, rfl, rfl⟩
    refine g_ifb_ne (tgt := 17) hX (dk DX12_takesClause 6 rfl) (by decide) (fun hc2 => ?_) (fun hc2 => ?_)
    · have hd := hc2
      rw [if_pos hd, W2_w]
      have hnu := nuA_le (X := tx) hhd.2
      have hng := nuA_gt hd
      refine g_aload_0 hX (dk DX12_takesClause 9 rfl) ?_
      refine g_getRs (r := 12) hX (dk DX12_takesClause 10 rfl) KX12 fX12_80 (by decide) rfl (MLt hM (by decide)) (MC hM) (MR hM 23 (by decide) rfl) ?_
      refine g_iload_1 hX (dk DX12_takesClause 11 rfl) ?_
      refine g_aload_0 hX (dk DX12_takesClause 12 rfl) ?_
      refine g_getIv hX (dk DX12_takesClause 13 rfl) KX12 fX12_68 (by decide) rfl (MLt hM (by decide)) (MC hM) (W2_v9) ?_
      refine i_iastore hX (dk DX12_takesClause 14 rfl) (MLt hM (q := 12) (by decide)) (MS hM 12 (by decide) rfl) (⟨rfl, hc, by decide⟩) ?_
      refine g_aload_0 hX (dk DX12_takesClause 15 rfl) ?_
      refine g_getRs (r := 11) hX (dk DX12_takesClause 16 rfl) KX12 fX12_77 (by decide) rfl (MLt hM (by decide)) (MC hM) (MR hM 22 (by decide) rfl) ?_
      refine g_iload_1 hX (dk DX12_takesClause 17 rfl) ?_
      refine v_iaload hX (dk DX12_takesClause 18 rfl) (MLt hM (q := 11) (by decide)) (MS hM 11 (by decide) rfl) (⟨rfl, hc, by decide⟩) ((show upI I 11 c (hdA tx n a).2.2 11 c = (hdA tx n a).2.2 from up0 _ _ _ _)) ?_
      refine g_iconst (v := 1) hX (dk DX12_takesClause 19 rfl) (by decide) ?_
      refine g_icmp_gt (tgt := 54) hX (dk DX12_takesClause 20 rfl) (by decide) (fun hc3 => ?_) (fun hc3 => ?_)
      · refine g_iconst (v := 1) hX (dk DX12_takesClause 29 rfl) (by decide) ?_
        refine g_goto (tgt := 59) hX (dk DX12_takesClause 30 rfl) (by decide) ?_
        refine g_ireturn hX (dk DX12_takesClause 32 rfl) rfl (by decide) (by decide) (by decide) ?_
        first
        | (have e := cl_w hh hd (by assumption)
           rw [e]
           exact qI_of ⟨rfl, rfl, ((((FC.rf.w11).f (by decide)).f (by decide)).w12), ((W2_T (hT.u (q := 11) (j := c) (by omega) (by decide))).u (q := 12) (j := c) (by omega) (by decide)), (show AT n (nuA tx n (hdA tx n a).2.1) _ from ⟨rfl, hnu⟩), fun _ => ⟨⟨up0 _ _ _ _, up0 _ _ _ _, fun z => absurd (show 1 < (hdA tx n a).2.2 by assumption) z⟩, h28, by show fr + 0 ≤ 100 * p + (nuA tx n (hdA tx n a).2.1); omega⟩⟩)
        | (have e := cl_s hh hd (by assumption) (by assumption)
           have etk : tkA tx n (nuA tx n (hdA tx n a).2.1) 32 = (nuA tx n (hdA tx n a).2.1) := if_neg (by assumption)
           rw [e, etk]
           exact qI_of ⟨rfl, rfl, (((((FC.rf.w11).f (by decide)).f (by decide)).w12).f (by decide)), (TX.w ((W2_T (hT.u (q := 11) (j := c) (by omega) (by decide))).u (q := 12) (j := c) (by omega) (by decide))), (AT.w hnu), fun z => absurd (show false = true from z) Bool.false_ne_true⟩)
        | (have e := cl_E hh hd hw1 h32
           have hr : (amR tx n 101 true ((nuA tx n (hdA tx n a).2.1) + 1) [] []).1 = false := Bool.not_eq_true _ ▸ (by assumption)
           rw [e]
           exact qI_of ⟨rfl, (bI_f (by assumption)).symm, (((((FC.rf.w11).f (by decide)).f (by decide)).w12).f (by decide)).tr k1, hT8, hA8, fun z => absurd z (by assumption)⟩)
        | (have e := cl_E hh hd hw1 h32
           have hr : (amR tx n 101 true ((nuA tx n (hdA tx n a).2.1) + 1) [] []).1 = true := by assumption
           obtain ⟨r1, r2, r3, r4⟩ := hR8 hr
           rw [e]
           exact qI_of ⟨rfl, (bI_t hr).symm, (((((FC.rf.w11).f (by decide)).f (by decide)).w12).f (by decide)).tr k1, hT8, hA8, fun _ => ⟨⟨(congrFun k3 c).trans (up0 _ _ _ _), (congrFun k4 c).trans (up0 _ _ _ _), fun _ => ⟨k2, r1, r2⟩⟩, r3, r4⟩⟩)
      · have hw1 := hc3
        refine g_aload_0 hX (dk DX12_takesClause 21 rfl) ?_
        refine g_bipush (v := 32) hX (dk DX12_takesClause 22 rfl) (by decide) ?_
        refine g_c2I hX sX12_takesClause_40 (by decide) (Nat.le_of_ble_eq_true rfl) (rc0 rfl (MLt hM (by decide)) (MC hM)) (by decide) (by decide) (q_takes hG hM ((W2_T (hT.u (q := 11) (j := c) (by omega) (by decide))).u (q := 12) (j := c) (by omega) (by decide)) (show AT n (nuA tx n (hdA tx n a).2.1) _ from ⟨rfl, hnu⟩)) ?_
        refine g_ifb_eq (tgt := 58) hX (dk DX12_takesClause 24 rfl) (by decide) (fun hc4 => ?_) (fun hc4 => ?_)
        · refine g_iconst (v := 0) hX (dk DX12_takesClause 31 rfl) (by decide) ?_
          refine g_ireturn hX (dk DX12_takesClause 32 rfl) rfl (by decide) (by decide) (by decide) ?_
          first
          | (have e := cl_w hh hd (by assumption)
             rw [e]
             exact qI_of ⟨rfl, rfl, ((((FC.rf.w11).f (by decide)).f (by decide)).w12), ((W2_T (hT.u (q := 11) (j := c) (by omega) (by decide))).u (q := 12) (j := c) (by omega) (by decide)), (show AT n (nuA tx n (hdA tx n a).2.1) _ from ⟨rfl, hnu⟩), fun _ => ⟨⟨up0 _ _ _ _, up0 _ _ _ _, fun z => absurd (show 1 < (hdA tx n a).2.2 by assumption) z⟩, h28, by show fr + 0 ≤ 100 * p + (nuA tx n (hdA tx n a).2.1); omega⟩⟩)
          | (have e := cl_s hh hd (by assumption) (by assumption)
             have etk : tkA tx n (nuA tx n (hdA tx n a).2.1) 32 = (nuA tx n (hdA tx n a).2.1) := if_neg (by assumption)
             rw [e, etk]
             exact qI_of ⟨rfl, rfl, (((((FC.rf.w11).f (by decide)).f (by decide)).w12).f (by decide)), (TX.w ((W2_T (hT.u (q := 11) (j := c) (by omega) (by decide))).u (q := 12) (j := c) (by omega) (by decide))), (AT.w hnu), fun z => absurd (show false = true from z) Bool.false_ne_true⟩)
          | (have e := cl_E hh hd hw1 h32
             have hr : (amR tx n 101 true ((nuA tx n (hdA tx n a).2.1) + 1) [] []).1 = false := Bool.not_eq_true _ ▸ (by assumption)
             rw [e]
             exact qI_of ⟨rfl, (bI_f (by assumption)).symm, (((((FC.rf.w11).f (by decide)).f (by decide)).w12).f (by decide)).tr k1, hT8, hA8, fun z => absurd z (by assumption)⟩)
          | (have e := cl_E hh hd hw1 h32
             have hr : (amR tx n 101 true ((nuA tx n (hdA tx n a).2.1) + 1) [] []).1 = true := by assumption
             obtain ⟨r1, r2, r3, r4⟩ := hR8 hr
             rw [e]
             exact qI_of ⟨rfl, (bI_t hr).symm, (((((FC.rf.w11).f (by decide)).f (by decide)).w12).f (by decide)).tr k1, hT8, hA8, fun _ => ⟨⟨(congrFun k3 c).trans (up0 _ _ _ _), (congrFun k4 c).trans (up0 _ _ _ _), fun _ => ⟨k2, r1, r2⟩⟩, r3, r4⟩⟩)
        · have h32 := hc4
          have hlt2 : (nuA tx n (hdA tx n a).2.1) < n := nxA_no (by decide) h32
          have etk : tkA tx n (nuA tx n (hdA tx n a).2.1) 32 = (nuA tx n (hdA tx n a).2.1) + 1 := if_pos h32
          rw [etk]
          refine g_aload_0 hX (dk DX12_takesClause 25 rfl) ?_
          refine g_iload_1 hX (dk DX12_takesClause 26 rfl) ?_
          refine g_c2q hX sX12_takesClause_48 (by decide) (Nat.le_of_ble_eq_true rfl) (rc0 rfl (MLt hM (by decide)) (MC hM)) (by decide) (by decide) (q_takesE hG hM (p := p) (fr := fr) (a := (nuA tx n (hdA tx n a).2.1) + 1) hp hc (TX.w ((W2_T (hT.u (q := 11) (j := c) (by omega) (by decide))).u (q := 12) (j := c) (by omega) (by decide))) (AT.w hlt2) (show _ = nI fr from h28) h1 (by omega)) ?_
          rintro v J8 h8 ⟨rfl, rfl, hF8, hT8, hA8, hR8⟩
          obtain ⟨k1, k2, k3, k4⟩ := FC.of hF8
          refine g_ifb_eq (tgt := 58) hX (dk DX12_takesClause 28 rfl) (by decide) (fun hc5 => ?_) (fun hc5 => ?_)
          · refine g_iconst (v := 0) hX (dk DX12_takesClause 31 rfl) (by decide) ?_
            refine g_ireturn hX (dk DX12_takesClause 32 rfl) rfl (by decide) (by decide) (by decide) ?_
            first
            | (have e := cl_w hh hd (by assumption)
               rw [e]
               exact qI_of ⟨rfl, rfl, ((((FC.rf.w11).f (by decide)).f (by decide)).w12), ((W2_T (hT.u (q := 11) (j := c) (by omega) (by decide))).u (q := 12) (j := c) (by omega) (by decide)), (show AT n (nuA tx n (hdA tx n a).2.1) _ from ⟨rfl, hnu⟩), fun _ => ⟨⟨up0 _ _ _ _, up0 _ _ _ _, fun z => absurd (show 1 < (hdA tx n a).2.2 by assumption) z⟩, h28, by show fr + 0 ≤ 100 * p + (nuA tx n (hdA tx n a).2.1); omega⟩⟩)
            | (have e := cl_s hh hd (by assumption) (by assumption)
               have etk : tkA tx n (nuA tx n (hdA tx n a).2.1) 32 = (nuA tx n (hdA tx n a).2.1) := if_neg (by assumption)
               rw [e, etk]
               exact qI_of ⟨rfl, rfl, (((((FC.rf.w11).f (by decide)).f (by decide)).w12).f (by decide)), (TX.w ((W2_T (hT.u (q := 11) (j := c) (by omega) (by decide))).u (q := 12) (j := c) (by omega) (by decide))), (AT.w hnu), fun z => absurd (show false = true from z) Bool.false_ne_true⟩)
            | (have e := cl_E hh hd hw1 h32
               have hr : (amR tx n 101 true ((nuA tx n (hdA tx n a).2.1) + 1) [] []).1 = false := Bool.not_eq_true _ ▸ (by assumption)
               rw [e]
               exact qI_of ⟨rfl, (bI_f (by assumption)).symm, (((((FC.rf.w11).f (by decide)).f (by decide)).w12).f (by decide)).tr k1, hT8, hA8, fun z => absurd z (by assumption)⟩)
            | (have e := cl_E hh hd hw1 h32
               have hr : (amR tx n 101 true ((nuA tx n (hdA tx n a).2.1) + 1) [] []).1 = true := by assumption
               obtain ⟨r1, r2, r3, r4⟩ := hR8 hr
               rw [e]
               exact qI_of ⟨rfl, (bI_t hr).symm, (((((FC.rf.w11).f (by decide)).f (by decide)).w12).f (by decide)).tr k1, hT8, hA8, fun _ => ⟨⟨(congrFun k3 c).trans (up0 _ _ _ _), (congrFun k4 c).trans (up0 _ _ _ _), fun _ => ⟨k2, r1, r2⟩⟩, r3, r4⟩⟩)
          · refine g_iconst (v := 1) hX (dk DX12_takesClause 29 rfl) (by decide) ?_
            refine g_goto (tgt := 59) hX (dk DX12_takesClause 30 rfl) (by decide) ?_
            refine g_ireturn hX (dk DX12_takesClause 32 rfl) rfl (by decide) (by decide) (by decide) ?_
            first
            | (have e := cl_w hh hd (by assumption)
               rw [e]
               exact qI_of ⟨rfl, rfl, ((((FC.rf.w11).f (by decide)).f (by decide)).w12), ((W2_T (hT.u (q := 11) (j := c) (by omega) (by decide))).u (q := 12) (j := c) (by omega) (by decide)), (show AT n (nuA tx n (hdA tx n a).2.1) _ from ⟨rfl, hnu⟩), fun _ => ⟨⟨up0 _ _ _ _, up0 _ _ _ _, fun z => absurd (show 1 < (hdA tx n a).2.2 by assumption) z⟩, h28, by show fr + 0 ≤ 100 * p + (nuA tx n (hdA tx n a).2.1); omega⟩⟩)
            | (have e := cl_s hh hd (by assumption) (by assumption)
               have etk : tkA tx n (nuA tx n (hdA tx n a).2.1) 32 = (nuA tx n (hdA tx n a).2.1) := if_neg (by assumption)
               rw [e, etk]
               exact qI_of ⟨rfl, rfl, (((((FC.rf.w11).f (by decide)).f (by decide)).w12).f (by decide)), (TX.w ((W2_T (hT.u (q := 11) (j := c) (by omega) (by decide))).u (q := 12) (j := c) (by omega) (by decide))), (AT.w hnu), fun z => absurd (show false = true from z) Bool.false_ne_true⟩)
            | (have e := cl_E hh hd hw1 h32
               have hr : (amR tx n 101 true ((nuA tx n (hdA tx n a).2.1) + 1) [] []).1 = false := Bool.not_eq_true _ ▸ (by assumption)
               rw [e]
               exact qI_of ⟨rfl, (bI_f (by assumption)).symm, (((((FC.rf.w11).f (by decide)).f (by decide)).w12).f (by decide)).tr k1, hT8, hA8, fun z => absurd z (by assumption)⟩)
            | (have e := cl_E hh hd hw1 h32
               have hr : (amR tx n 101 true ((nuA tx n (hdA tx n a).2.1) + 1) [] []).1 = true := by assumption
               obtain ⟨r1, r2, r3, r4⟩ := hR8 hr
               rw [e]
               exact qI_of ⟨rfl, (bI_t hr).symm, (((((FC.rf.w11).f (by decide)).f (by decide)).w12).f (by decide)).tr k1, hT8, hA8, fun _ => ⟨⟨(congrFun k3 c).trans (up0 _ _ _ _), (congrFun k4 c).trans (up0 _ _ _ _), fun _ => ⟨k2, r1, r2⟩⟩, r3, r4⟩⟩)
    · refine g_iconst (v := 0) hX (dk DX12_takesClause 7 rfl) (by decide) ?_
      refine g_ireturn hX (dk DX12_takesClause 8 rfl) rfl (by decide) (by decide) (by decide) ?_
      first
      | (have e := cl_h (X := tx) (n := n) (a := a) (by assumption)
         rw [e]
         exact qI_of ⟨rfl, rfl, ((FC.rf.w11).f (by decide)), (hT.u (q := 11) (j := c) (by omega) (by decide)).w, (AT.w hhd.2), fun z => absurd (show false = true from z) Bool.false_ne_true⟩)
      | (have e := cl_n (X := tx) (n := n) (a := a) hh (by assumption)
         rw [e, if_neg (by assumption)]
         exact qI_of ⟨rfl, rfl, ((FC.rf.w11).f (by decide)), (hT.u (q := 11) (j := c) (by omega) (by decide)).w, (AT.w hhd.2), fun z => absurd (show false = true from z) Bool.false_ne_true⟩)
end
section
theorem ten_p (p : Nat) : (10 : Int32) * nI p = nI (10 * p) := by rw [show (10 : Int32) = nI 10 from rfl, pk_mul]
theorem hun_p (p : Nat) : (100 : Int32) * nI p = nI (100 * p) := by rw [show (100 : Int32) = nI 100 from rfl, pk_mul]
theorem FG.L {p : Nat} {I J : It} (h : FG p I J) : J 17 = I 17 := h.2.1 17 (by decide)
theorem CLr.f {J : It} {c fr j : Nat} {k : Cl} {x : Int32} (h : CLr J c fr k) : CLr (upI J 0 j x) c fr k := h
theorem STc.f {J : It} {p j k fr : Nat} {l : List Cl} {x : Int32} (h : STc J p l k fr) : STc (upI J 0 j x) p l k fr := STc_mv h (fun _ _ _ => ⟨rfl, rfl, rfl, rfl⟩) (fun _ _ _ => rfl)
theorem STc.ten {J : It} {p j k fr : Nat} {l : List Cl} {x : Int32} (h : STc J p l k fr) : STc (upI J 10 j x) p l k fr := STc_mv h (fun _ _ _ => ⟨rfl, rfl, rfl, rfl⟩) (fun _ _ _ => rfl)
theorem STc.cl {J K : It} {p : Nat} {l : List Cl} {x : Cl} (h : STc J p l 0 (100 * p)) (hF : FC p (10 * p + l.length) (100 * p + tot l) J K) (hx : CLr K (10 * p + l.length) (100 * p + tot l) x) : STc K p (l ++ [x]) 0 (100 * p) := by
  refine STc_app (STc_mv h (fun c _ hc => hF.2.2.1 c (by omega)) (fun j _ hj => hF.2.2.2 j (by omega))) ?_
  rw [Nat.zero_add]
  exact hx
section GT
variable {X : Nat → Int32} {n f a : Nat} {l : List Cl}
theorem gt_f (h : ¬ (clA X n a).1 = true) : gtA X n (f + 1) a l = (false, (clA X n a).2.1, l) := by rw [gtA_s, if_pos (Bool.not_eq_true _ ▸ h)]
theorem gt_e (h : (clA X n a).1 = true) (h2 : (clA X n a).2.1 = n) : gtA X n (f + 1) a l = (true, n, l ++ [(clA X n a).2.2]) := by rw [gtA_s, if_neg (by rw [h]; decide), if_pos h2]
theorem gt_10 (h : (clA X n a).1 = true) (h2 : ¬ (clA X n a).2.1 = n) (h3 : l.length + 1 = 10) : gtA X n (f + 1) a l = (false, (clA X n a).2.1, l) := by rw [gtA_s, if_neg (by rw [h]; decide), if_neg h2, if_pos h3]
theorem gt_x (h : (clA X n a).1 = true) (h2 : ¬ (clA X n a).2.1 = n) (h3 : ¬ l.length + 1 = 10) (h4 : ¬ nxA X n (clA X n a).2.1 = 59) : gtA X n (f + 1) a l = (false, (clA X n a).2.1, l) := by rw [gtA_s, if_neg (by rw [h]; decide), if_neg h2, if_neg h3, if_neg h4]
theorem gt_s (h : (clA X n a).1 = true) (h2 : ¬ (clA X n a).2.1 = n) (h3 : ¬ l.length + 1 = 10) (h4 : nxA X n (clA X n a).2.1 = 59) : gtA X n (f + 1) a l = gtA X n f ((clA X n a).2.1 + 1) (l ++ [(clA X n a).2.2]) := by rw [gtA_s, if_neg (by rw [h]; decide), if_neg h2, if_neg h3, if_pos h4]
end GT

set_option maxRecDepth 8000 in
set_option maxHeartbeats 4000000 in
theorem q_goesText {G : Gt} (hG : Gok G) {I : It} {h : Ht} (hM : HM h) {p : Nat} {tx : Nat → Int32} {n : Nat} (hp : p < 6) (hT : TX tx n I) (hL : ∀ j, j < 15 → I 17 j = lettersL.getD j 0)  : Con G (8) 0 0 mX12_goesText [.ref 0, .int (nI p)] I h (qI (fun v J h2 => h2 = h ∧ v = bI ((gtA tx n 10 0 []).1 = true) ∧ FG p I J ∧ TX tx n J ∧ AT n (gtA tx n 10 0 []).2.1 J ∧ ((gtA tx n 10 0 []).1 = true → J 10 p = nI (gtA tx n 10 0 []).2.2.length ∧ STc J p (gtA tx n 10 0 []).2.2 0 (100 * p) ∧ tot (gtA tx n 10 0 []).2.2 ≤ n))) := by
  refine con_intro (own := RX12) (lo0 := [some (.ref 0), some (.int (nI p)), none]) hG rfl pl_X12 (Nat.le_of_ble_eq_true rfl) rfl (fun X hX => ?_)
  have hn100 := hT.2.1
  have loop15 : ∀ (f a2 : Nat) (l : List Cl) (J : It), l.length + f = 10 → 1 ≤ f → a2 ≤ n → FG p I J → TX tx n J → J 0 18 = nI a2 → J 0 28 = nI (100 * p + tot l) → tot l ≤ a2 → STc J p l 0 (100 * p) → gtA tx n f a2 l = (gtA tx n 10 0 []) → GG G (8) 0 0 X (qI (fun v J h2 => h2 = h ∧ v = bI ((gtA tx n 10 0 []).1 = true) ∧ FG p I J ∧ TX tx n J ∧ AT n (gtA tx n 10 0 []).2.1 J ∧ ((gtA tx n 10 0 []).1 = true → J 10 p = nI (gtA tx n 10 0 []).2.2.length ∧ STc J p (gtA tx n 10 0 []).2.2 0 (100 * p) ∧ tot (gtA tx n 10 0 []).2.2 ≤ n))) 15 [some (.ref 0), some (.int (nI p)), some (.int (nI l.length))] [] (J) (h) 0 0 := by
    intro f
    induction f using Nat.strongRecOn with | _ f ih => ?_
    intro a2 l J hl hf1 ha2 hFG hTJ hAJ h28 htot hST hv
    obtain ⟨f, rfl⟩ : ∃ z, f = z + 1 := ⟨f - 1, by omega⟩
    refine g_aload_0 hX (dk DX12_goesText 10 rfl) ?_
    refine g_bipush (v := 10) hX (dk DX12_goesText 11 rfl) (by decide) ?_
    refine g_iload_1 hX (dk DX12_goesText 12 rfl) ?_
    refine g_imul hX (dk DX12_goesText 13 rfl) ?_
    refine g_nmI (nI (10 * p)) (ten_p p) ?_
    refine g_iload_2 hX (dk DX12_goesText 14 rfl) ?_
    refine g_iadd hX (dk DX12_goesText 15 rfl) ?_
    refine g_nmI (nI (10 * p + l.length)) (nI_add _ _) ?_
    refine g_c2q hX sX12_goesText_22 (by decide) (Nat.le_of_ble_eq_true rfl) (rc0 rfl (MLt hM (by decide)) (MC hM)) (by decide) (by decide) (q_takesClause hG hM (p := p) (fr := 100 * p + tot l) (a := a2) hp (by omega) hTJ ⟨hAJ, ha2⟩ h28 (by omega) (by omega) (fun j hj => (congrFun hFG.L j).trans (hL j hj))) ?_
    rintro v J8 h8 ⟨rfl, rfl, hF8, hT8, hA8, hR8⟩
    have hG8 := hFG.c hF8 ⟨by omega, by omega⟩ (by omega)
    refine g_ifb_ne (tgt := 30) hX (dk DX12_goesText 17 rfl) (by decide) (fun hc1 => ?_) (fun hc1 => ?_)
    · have hc := hc1
      obtain ⟨r1, r2, r3⟩ := hR8 hc
      have hca := hA8.2
      refine g_iinc_2 hX (dk DX12_goesText 20 rfl) (nI_1 l.length) (by decide) rfl ?_
      refine g_aload_0 hX (dk DX12_goesText 21 rfl) ?_
      refine g_getRs (r := 10) hX (dk DX12_goesText 22 rfl) KX12 fX12_74 (by decide) rfl (MLt hM (by decide)) (MC hM) (MR hM 21 (by decide) rfl) ?_
      refine g_iload_1 hX (dk DX12_goesText 23 rfl) ?_
      refine g_iload_2 hX (dk DX12_goesText 24 rfl) ?_
      refine i_iastore hX (dk DX12_goesText 25 rfl) (MLt hM (q := 10) (by decide)) (MS hM 10 (by decide) rfl) (⟨rfl, hp, by decide⟩) ?_
      refine g_aload_0 hX (dk DX12_goesText 26 rfl) ?_
      refine g_getIv hX (dk DX12_goesText 27 rfl) KX12 fX12_65 (by decide) rfl (MLt hM (by decide)) (MC hM) ((show _ = nI (clA tx n a2).2.1 from hA8.1)) ?_
      refine g_aload_0 hX (dk DX12_goesText 28 rfl) ?_
      refine g_getIv hX (dk DX12_goesText 29 rfl) KX12 fX12_62 (by decide) rfl (MLt hM (by decide)) (MC hM) ((show _ = nI n from hT8.1)) ?_
      refine g_icmp_ne (tgt := 53) hX (dk DX12_goesText 30 rfl) (by decide) (fun hc2 => ?_) (fun hc2 => ?_)
      · have hne : ¬ (clA tx n a2).2.1 = n := fun z => hc2 (by rw [z])
        refine g_iload_2 hX (dk DX12_goesText 33 rfl) ?_
        refine g_bipush (v := 10) hX (dk DX12_goesText 34 rfl) (by decide) ?_
        refine g_icmp_eq (tgt := 68) hX (dk DX12_goesText 35 rfl) (by decide) (fun hc3 => ?_) (fun hc3 => ?_)
        · refine g_iconst (v := 0) hX (dk DX12_goesText 40 rfl) (by decide) ?_
          refine g_ireturn hX (dk DX12_goesText 41 rfl) rfl (by decide) (by decide) (by decide) ?_
          first
          | (have e := gt_10 (f := f) (l := l) hc hne ((nI_eq (b := 10) (by omega) (by decide)).mp (show nI (l.length + 1) = nI 10 by assumption))
             rw [e] at hv
             rw [← hv]
             exact qI_of ⟨rfl, rfl, hG8.w10, (hT8.u (by omega) (by decide)), (hA8.u (by omega)), fun z => absurd (show false = true from z) Bool.false_ne_true⟩)
          | (have e := gt_x (f := f) (l := l) hc hne h10 (by assumption)
             have etk : tkA tx n (clA tx n a2).2.1 59 = (clA tx n a2).2.1 := if_neg (by assumption)
             rw [e] at hv
             rw [← hv, etk]
             exact qI_of ⟨rfl, rfl, (hG8.w10.f (by decide)), (TX.w (hT8.u (by omega) (by decide))), (AT.w hca), fun z => absurd (show false = true from z) Bool.false_ne_true⟩)
        · have h10 : ¬ l.length + 1 = 10 := fun z => hc3 (by rw [z]; rfl)
          refine g_aload_0 hX (dk DX12_goesText 36 rfl) ?_
          refine g_bipush (v := 59) hX (dk DX12_goesText 37 rfl) (by decide) ?_
          refine g_c2I hX sX12_goesText_62 (by decide) (Nat.le_of_ble_eq_true rfl) (rc0 rfl (MLt hM (by decide)) (MC hM)) (by decide) (by decide) (q_takes hG hM (hT8.u (q := 10) (by omega) (by decide)) (hA8.u (by omega))) ?_
          refine g_ifb_ne (tgt := 15) hX (dk DX12_goesText 39 rfl) (by decide) (fun hc4 => ?_) (fun hc4 => ?_)
          · have h59 : nxA tx n (clA tx n a2).2.1 = 59 := by assumption
            have etk : tkA tx n (clA tx n a2).2.1 59 = (clA tx n a2).2.1 + 1 := if_pos h59
            have hlt := nxA_no (X := tx) (by decide) h59
            rw [etk]
            have eln : (l ++ [(clA tx n a2).2.2]).length = l.length + 1 := by simp
            exact g_fgt (ih f (by omega) ((clA tx n a2).2.1 + 1) (l ++ [(clA tx n a2).2.2]) _ (by rw [eln]; omega) (by omega) hlt ((hG8.w10).f (by decide)) (TX.w (hT8.u (by omega) (by decide))) rfl (by rw [tot_app, ← Nat.add_assoc]; exact r2) (by rw [tot_app]; omega) (STc.f (STc.ten (hST.cl hF8 r1))) (by rw [← hv, gt_s hc hne h10 h59])) ⟨rfl, rfl, by rw [eln], trivial⟩
          · refine g_iconst (v := 0) hX (dk DX12_goesText 40 rfl) (by decide) ?_
            refine g_ireturn hX (dk DX12_goesText 41 rfl) rfl (by decide) (by decide) (by decide) ?_
            first
            | (have e := gt_10 (f := f) (l := l) hc hne ((nI_eq (b := 10) (by omega) (by decide)).mp (show nI (l.length + 1) = nI 10 by assumption))
               rw [e] at hv
               rw [← hv]
               exact qI_of ⟨rfl, rfl, hG8.w10, (hT8.u (by omega) (by decide)), (hA8.u (by omega)), fun z => absurd (show false = true from z) Bool.false_ne_true⟩)
            | (have e := gt_x (f := f) (l := l) hc hne h10 (by assumption)
               have etk : tkA tx n (clA tx n a2).2.1 59 = (clA tx n a2).2.1 := if_neg (by assumption)
               rw [e] at hv
               rw [← hv, etk]
               exact qI_of ⟨rfl, rfl, (hG8.w10.f (by decide)), (TX.w (hT8.u (by omega) (by decide))), (AT.w hca), fun z => absurd (show false = true from z) Bool.false_ne_true⟩)
      · refine g_iconst (v := 1) hX (dk DX12_goesText 31 rfl) (by decide) ?_
        refine g_ireturn hX (dk DX12_goesText 32 rfl) rfl (by decide) (by decide) (by decide) ?_
        have hen : (clA tx n a2).2.1 = n := (nI_eq (by omega) (by omega)).mp (by assumption)
        have e := gt_e (f := f) (l := l) hc hen
        rw [e] at hv
        rw [← hv]
        have eln : (l ++ [(clA tx n a2).2.2]).length = l.length + 1 := by simp
        exact qI_of ⟨rfl, rfl, hG8.w10, hT8.u (by omega) (by decide), (show AT n n _ from ⟨by rw [hen] at hA8; exact hA8.1, Nat.le_refl _⟩), fun _ => ⟨by rw [eln]; exact up0 _ _ _ _, STc.ten (hST.cl hF8 r1), by rw [tot_app]; omega⟩⟩
    · refine g_iconst (v := 0) hX (dk DX12_goesText 18 rfl) (by decide) ?_
      refine g_ireturn hX (dk DX12_goesText 19 rfl) rfl (by decide) (by decide) (by decide) ?_
      have e := gt_f (f := f) (l := l) (X := tx) (n := n) (a := a2) (by assumption)
      rw [e] at hv
      rw [← hv]
      exact qI_of ⟨rfl, rfl, hG8, hT8, hA8, fun z => absurd (show false = true from z) Bool.false_ne_true⟩
  refine g_aload_0 hX (dk DX12_goesText 0 rfl) ?_
  refine g_iconst (v := 0) hX (dk DX12_goesText 1 rfl) (by decide) ?_
  refine g_putI hX (dk DX12_goesText 2 rfl) KX12 fX12_65 (by decide) rfl (MLt hM (by decide)) (MC hM) (Or.inl rfl) (rfl) (rfl) ?_
  refine g_aload_0 hX (dk DX12_goesText 3 rfl) ?_
  refine g_bipush (v := 100) hX (dk DX12_goesText 4 rfl) (by decide) ?_
  refine g_iload_1 hX (dk DX12_goesText 5 rfl) ?_
  refine g_imul hX (dk DX12_goesText 6 rfl) ?_
  refine g_nmI (nI (100 * p)) (hun_p p) ?_
  refine g_putI hX (dk DX12_goesText 7 rfl) KX12 fX12_95 (by decide) rfl (MLt hM (by decide)) (MC hM) (Or.inl rfl) (rfl) (rfl) ?_
  refine g_iconst (v := 0) hX (dk DX12_goesText 8 rfl) (by decide) ?_
  refine g_istore_2 hX (dk DX12_goesText 9 rfl) (by decide) rfl ?_
  exact g_fgt (loop15 10 0 [] _ rfl (by decide) (Nat.zero_le _) ((FG.rf.f (by decide)).f (by decide)) ((hT.u (by omega) (by decide)).u (by omega) (by decide)) rfl rfl (by decide) trivial rfl) ⟨rfl, rfl, rfl, trivial⟩
end
section
/-! the post: what is answered, and the picture behind it -/
def fedN (E : It) : Nat := tN (E 0 17)
def poR (E : It) : Bool × Nat × List Cl := gtA (E 9) (fedN E) 10 0 []
/-- a picture with a post more -/
def PN (E E' : It) (l : List Cl) : Prop :=
  (E' 0 15 = nI (nP E + 1) ∧ E' 0 16 = nI (nP E) ∧ E' 0 17 = 0) ∧ (∀ j, j ∉ [15, 16, 17] → E' 0 j = E 0 j) ∧ (∀ a, a ∉ [0, 10, 11, 12, 13, 14, 15] → E' a = E a) ∧
  (∀ j, j < nP E → E' 10 j = E 10 j) ∧ (∀ j, j < 10 * nP E → E' 11 j = E 11 j ∧ E' 12 j = E 12 j ∧ E' 13 j = E 13 j ∧ E' 14 j = E 14 j) ∧ (∀ j, j < 100 * nP E → E' 15 j = E 15 j) ∧
  E' 10 (nP E) = nI l.length ∧ STc E' (nP E) l 0 (100 * nP E) ∧ tot l ≤ 100
def PoS (E E' : It) (v : Int32) : Prop :=
  (nP E = 6 ∧ v = -4 ∧ E' = E) ∨ (nP E < 6 ∧ (poR E).1 = false ∧ v = -10 - nI (poR E).2.1 ∧ E' = upI E 0 17 0) ∨ (nP E < 6 ∧ (poR E).1 = true ∧ v = nI (nP E) ∧ PN E E' (poR E).2.2)
def pnE (E J : It) (p : Nat) : It := fun a j => if a = 0 then (if j = 15 then nI (p + 1) else if j = 16 then nI p else if j = 17 then 0 else E 0 j) else if 10 ≤ a ∧ a ≤ 15 then J a j else E a j
theorem pnE_0 {E J : It} {p j : Nat} (h : j ∉ [15, 16, 17]) : pnE E J p 0 j = E 0 j := by
  simp only [List.mem_cons, List.not_mem_nil, or_false, not_or] at h
  unfold pnE
  rw [if_pos rfl, if_neg h.1, if_neg h.2.1, if_neg h.2.2]
theorem pnE_c {E J : It} {p a : Nat} (h0 : a ≠ 0) (h : ¬ (10 ≤ a ∧ a ≤ 15)) : pnE E J p a = E a := by
  funext j
  unfold pnE
  rw [if_neg h0, if_neg h]
theorem pnE_r {E J : It} {p a : Nat} (h : 10 ≤ a ∧ a ≤ 15) : pnE E J p a = J a := by
  funext j
  unfold pnE
  rw [if_neg (by omega), if_pos h]
theorem post_f {E I J : It} (hR : RM E I) (hG : FG (nP E) I J) : RM (upI E 0 17 0) (upI J 0 17 0) := by
  obtain ⟨a1, a2, a3, a4, a5, a6⟩ := hR
  obtain ⟨g1, g2, g3, g4, g5⟩ := hG
  have hn : nP (upI E 0 17 0) = nP E := rfl
  refine ⟨fun j hj _ => ?_, fun a ha _ => ?_, ?_, ?_, ?_, ?_⟩
  · by_cases e : j = 17
    · subst e; rw [up0, up0]
    · rw [upn (fun z => e z.2), upn (fun z => e z.2), g1 j (by intro z; revert hj z; simp [pfL]; omega)]
      exact a1 j hj (by simp)
  · have h0 : a ≠ 0 := by rintro rfl; revert ha; decide
    rw [upI_off h0, upI_off h0, g2 a (by intro z; revert ha z; simp [pcL]; omega)]
    exact a2 a ha (by simp)
  · intro j hj
    rw [hn] at hj
    exact (g3 j (by omega)).trans (a3 j hj)
  · intro j hj
    rw [hn] at hj
    obtain ⟨e1, e2, e3, e4⟩ := g4 j (by omega)
    obtain ⟨b1, b2, b3, b4⟩ := a4 j hj
    exact ⟨e1.trans b1, e2.trans b2, e3.trans b3, e4.trans b4⟩
  · intro j hj
    rw [hn] at hj
    exact (g5 j (by omega)).trans (a5 j hj)
  · intro j hj
    exact (congrFun (g2 17 (by decide)) j).trans (a6 j hj)
theorem post_t {E I J : It} (hR : RM E I) (hG : FG (nP E) I J) : RM (pnE E J (nP E)) (upI (upI (upI J 0 17 0) 0 16 (nI (nP E))) 0 15 (nI (nP E + 1))) := by
  obtain ⟨a1, a2, a3, a4, a5, a6⟩ := hR
  obtain ⟨g1, g2, g3, g4, g5⟩ := hG
  have ho : ∀ a, a ≠ 0 → upI (upI (upI J 0 17 0) 0 16 (nI (nP E))) 0 15 (nI (nP E + 1)) a = J a := fun a h0 => (upI_off h0).trans ((upI_off h0).trans (upI_off h0))
  refine ⟨fun j hj _ => ?_, fun a ha _ => ?_, fun j hj => ?_, fun j hj => ?_, fun j hj => ?_, fun j hj => ?_⟩
  · by_cases e : j = 15
    · subst e; rfl
    · by_cases e2 : j = 16
      · subst e2; rfl
      · by_cases e3 : j = 17
        · subst e3; rfl
        · rw [pnE_0 (by simp; omega), upn (fun z => e z.2), upn (fun z => e2 z.2), upn (fun z => e3 z.2), g1 j (by intro z; revert hj z; simp [pfL]; omega)]
          exact a1 j hj (by simp)
  · have h0 : a ≠ 0 := by rintro rfl; revert ha; decide
    rw [ho a h0, pnE_c h0 (by intro z; revert ha z; simp [pcL]; omega), g2 a (by intro z; revert ha z; simp [pcL]; omega)]
    exact a2 a ha (by simp)
  · rw [ho 10 (by decide), pnE_r (by decide)]
  · rw [ho 11 (by decide), pnE_r (by decide), ho 12 (by decide), pnE_r (by decide), ho 13 (by decide), pnE_r (by decide), ho 14 (by decide), pnE_r (by decide)]
    exact ⟨rfl, rfl, rfl, rfl⟩
  · rw [ho 15 (by decide), pnE_r (by decide)]
  · rw [ho 17 (by decide)]
    exact (congrFun (g2 17 (by decide)) j).trans (a6 j hj)
theorem post_n {E I J : It} {l : List Cl} (hR : RM E I) (hG : FG (nP E) I J) (h1 : J 10 (nP E) = nI l.length) (h2 : STc J (nP E) l 0 (100 * nP E)) (h3 : tot l ≤ 100) : PN E (pnE E J (nP E)) l := by
  obtain ⟨a1, a2, a3, a4, a5, a6⟩ := hR
  obtain ⟨g1, g2, g3, g4, g5⟩ := hG
  refine ⟨⟨rfl, rfl, rfl⟩, fun j hj => pnE_0 hj, fun a ha => pnE_c (by rintro rfl; revert ha; decide) (by intro z; revert ha z; simp; omega), fun j hj => ?_, fun j hj => ?_, fun j hj => ?_, ?_, ?_, h3⟩
  · rw [pnE_r (by decide), g3 j (by omega)]; exact a3 j hj
  · rw [pnE_r (by decide), pnE_r (by decide), pnE_r (by decide), pnE_r (by decide)]
    obtain ⟨e1, e2, e3, e4⟩ := g4 j (by omega)
    obtain ⟨b1, b2, b3, b4⟩ := a4 j hj
    exact ⟨e1.trans b1, e2.trans b2, e3.trans b3, e4.trans b4⟩
  · rw [pnE_r (by decide), g5 j (by omega)]; exact a5 j hj
  · rw [pnE_r (by decide)]; exact h1
  · exact STc_mv h2 (fun c _ _ => by rw [pnE_r (by decide), pnE_r (by decide), pnE_r (by decide), pnE_r (by decide)]; exact ⟨rfl, rfl, rfl, rfl⟩) (fun j _ _ => by rw [pnE_r (by decide)])
theorem post_T {E I : It} (hE : Inv E) (hR : RM E I) : TX (E 9) (fedN E) I := by
  obtain ⟨f, hf, ef, -⟩ := hE.2.2.2.2.1
  have e : fedN E = f := by unfold fedN; rw [ef, tN_nI (by omega)]
  rw [e]
  exact ⟨(RM.f hR 17 (by decide) (by decide)).trans ef, hf, fun j _ => RM.c1 hR 9 j (by decide) (by decide)⟩

set_option maxRecDepth 8000 in
set_option maxHeartbeats 4000000 in
theorem c_X12_post {G : Gt} (hG : Gok G) {I : It} {h : Ht} (hM : HM h) {E : It} (hE : Inv E) (hR : RM E I) {L : Nat → Int64} (hl : hL h 38 = L)  : Con G (9) 0 0 mX12_post [.ref 0] I h (qI (fun v I2 h2 => ∃ E2, PoS E E2 v ∧ SM E2 L I2 h2)) := by
  refine con_intro (own := RX12) (lo0 := [some (.ref 0), none]) hG rfl pl_X12 (Nat.le_of_ble_eq_true rfl) rfl (fun X hX => ?_)
  refine g_aload_0 hX (dk DX12_post 0 rfl) ?_
  refine g_getIv hX (dk DX12_post 1 rfl) KX12 fX12_56 (by decide) rfl (MLt hM (by decide)) (MC hM) ((RM.f hR 15 (by decide) (by decide)).trans hE.2.2.1.1) ?_
  refine g_bipush (v := 6) hX (dk DX12_post 2 rfl) (by decide) ?_
  refine g_icmp_ne (tgt := 12) hX (dk DX12_post 3 rfl) (by decide) (fun hc1 => ?_) (fun hc1 => ?_)
  · have hp : nP E < 6 := by
      have := hE.2.2.1.2
      rcases Nat.lt_or_ge (nP E) 6 with z | z
      · exact z
      · exact absurd (show nI (nP E) = 6 by rw [show nP E = 6 by omega]; rfl) hc1
    refine g_aload_0 hX (dk DX12_post 6 rfl) ?_
    refine g_aload_0 hX (dk DX12_post 7 rfl) ?_
    refine g_getIv hX (dk DX12_post 8 rfl) KX12 fX12_56 (by decide) rfl (MLt hM (by decide)) (MC hM) ((RM.f hR 15 (by decide) (by decide)).trans hE.2.2.1.1) ?_
    refine g_c2q hX sX12_post_17 (by decide) (Nat.le_of_ble_eq_true rfl) (rc0 rfl (MLt hM (by decide)) (MC hM)) (by decide) (by decide) (q_goesText hG hM hp (post_T hE hR) hR.2.2.2.2.2) ?_
    rintro v J8 h8 ⟨rfl, rfl, hG8, hT8, hA8, hR8⟩
    refine g_istore_1 hX (dk DX12_post 10 rfl) (by decide) rfl ?_
    refine g_aload_0 hX (dk DX12_post 11 rfl) ?_
    refine g_iconst (v := 0) hX (dk DX12_post 12 rfl) (by decide) ?_
    refine g_putI hX (dk DX12_post 13 rfl) KX12 fX12_62 (by decide) rfl (MLt hM (by decide)) (MC hM) (Or.inl rfl) (rfl) (rfl) ?_
    refine g_iload_1 hX (dk DX12_post 14 rfl) ?_
    refine g_ifb_ne (tgt := 38) hX (dk DX12_post 15 rfl) (by decide) (fun hc2 => ?_) (fun hc2 => ?_)
    · refine g_aload_0 hX (dk DX12_post 21 rfl) ?_
      refine g_aload_0 hX (dk DX12_post 22 rfl) ?_
      refine g_getIv hX (dk DX12_post 23 rfl) KX12 fX12_56 (by decide) rfl (MLt hM (by decide)) (MC hM) ((show _ = nI (nP E) from (hG8.1 15 (by decide)).trans ((RM.f hR 15 (by decide) (by decide)).trans hE.2.2.1.1))) ?_
      refine g_putI hX (dk DX12_post 24 rfl) KX12 fX12_59 (by decide) rfl (MLt hM (by decide)) (MC hM) (Or.inl rfl) (rfl) (rfl) ?_
      refine g_aload_0 hX (dk DX12_post 25 rfl) ?_
      refine g_dup hX (dk DX12_post 26 rfl) rfl ?_
      refine g_getIv hX (dk DX12_post 27 rfl) KX12 fX12_56 (by decide) rfl (MLt hM (by decide)) (MC hM) ((show _ = nI (nP E) from (hG8.1 15 (by decide)).trans ((RM.f hR 15 (by decide) (by decide)).trans hE.2.2.1.1))) ?_
      refine g_iconst (v := 1) hX (dk DX12_post 28 rfl) (by decide) ?_
      refine g_iadd hX (dk DX12_post 29 rfl) ?_
      refine g_nmI (nI (nP E + 1)) (nI_1 _) ?_
      refine g_putI hX (dk DX12_post 30 rfl) KX12 fX12_56 (by decide) rfl (MLt hM (by decide)) (MC hM) (Or.inl rfl) (rfl) (rfl) ?_
      refine g_aload_0 hX (dk DX12_post 31 rfl) ?_
      refine g_getIv hX (dk DX12_post 32 rfl) KX12 fX12_59 (by decide) rfl (MLt hM (by decide)) (MC hM) ((show _ = nI (nP E) from rfl)) ?_
      refine g_ireturn hX (dk DX12_post 33 rfl) rfl (rfl) (by decide) (by decide) ?_
      have hr : (poR E).1 = true := by assumption
      exact qI_of ⟨pnE E J8 (nP E), Or.inr (Or.inr ⟨hp, hr, rfl, post_n hR hG8 (hR8 hr).1 (hR8 hr).2.1 (Nat.le_trans (hR8 hr).2.2 (post_T hE hR).2.1)⟩), post_t hR hG8, hM, hl⟩
    · refine g_bipush (v := -10) hX (dk DX12_post 16 rfl) (by decide) ?_
      refine g_aload_0 hX (dk DX12_post 17 rfl) ?_
      refine g_getIv hX (dk DX12_post 18 rfl) KX12 fX12_65 (by decide) rfl (MLt hM (by decide)) (MC hM) ((show _ = nI (poR E).2.1 from hA8.1)) ?_
      refine g_isub hX (dk DX12_post 19 rfl) ?_
      refine g_ireturn hX (dk DX12_post 20 rfl) rfl (rfl) (by decide) (by decide) ?_
      exact qI_of ⟨upI E 0 17 0, Or.inr (Or.inl ⟨hp, Bool.not_eq_true _ ▸ (by assumption), rfl, rfl⟩), post_f hR hG8, hM, hl⟩
  · refine g_bipush (v := -4) hX (dk DX12_post 4 rfl) (by decide) ?_
    refine g_ireturn hX (dk DX12_post 5 rfl) rfl (rfl) (by decide) (by decide) ?_
    exact qI_of ⟨E, Or.inl ⟨(nI_eq (b := 6) (by have := hE.2.2.1.2; omega) (by decide)).mp (by assumption), rfl, rfl⟩, hR, hM, hl⟩
end
section
/-! what is read is well made: codes, clauses, the picture behind a post -/
def dpL : List Int32 → Nat → Option Nat := fun l => match l with
  | [] => fun n => some n
  | x :: r => fun n => match depR x n with
    | none => none
    | some m => dpL r m
theorem dpL_c (x : Int32) (r : List Int32) (n : Nat) : dpL (x :: r) n = (match depR x n with
    | none => none
    | some m => dpL r m) := rfl
theorem dpL_app {x : Int32} : ∀ {l : List Int32} {n m : Nat}, dpL l n = some m → dpL (l ++ [x]) n = depR x m := by
  intro l
  induction l with
  | nil =>
    intro n m h
    cases h
    show dpL [x] n = _
    rw [dpL_c]
    cases depR x n <;> rfl
  | cons y r ih =>
    intro n m h
    rw [List.cons_append, dpL_c]
    rw [dpL_c] at h
    cases e : depR y n with
    | none => rw [e] at h; cases h
    | some q => rw [e] at h; exact ih h
def okCo (x : Int32) : Prop := (∃ t, t ≤ 6299 ∧ x = nI t) ∨ x = -33 ∨ x = -38 ∨ x = -124
def bns : List Int32 → Nat := fun ws => match ws with
  | [] => 0
  | x :: r => if x = 38 ∨ x = 124 then bns r + 1 else bns r
theorem bns_c (x : Int32) (r : List Int32) : bns (x :: r) = if x = 38 ∨ x = 124 then bns r + 1 else bns r := rfl
theorem dep_t {t n : Nat} (ht : t ≤ 6299) : depR (nI t) n = some (n + 1) := by
  unfold depR
  rw [if_neg (fun z => absurd (show nI t < 0 by rw [z]; decide) (nI_pos (by omega))), if_neg (nI_pos (by omega))]
theorem dep_b (n : Nat) : depR (-33) (n + 1) = some (n + 1) := by
  unfold depR
  rw [if_pos rfl, if_neg (by omega)]
theorem dep_o {x : Int32} (hx : x = 38 ∨ x = 124) (n : Nat) : depR (-x) (n + 2) = some (n + 1) := by
  unfold depR
  rcases hx with rfl | rfl
  · rw [if_neg (by decide), if_pos (by decide), if_neg (by omega)]; rfl
  · rw [if_neg (by decide), if_pos (by decide), if_neg (by omega)]; rfl
def okL (cs : List Int32) (m : Nat) : Prop := (∀ x, x ∈ cs → okCo x) ∧ dpL cs 0 = some m
theorem okL.put {cs : List Int32} {m m2 : Nat} {x : Int32} (h : okL cs m) (hx : okCo x) (hd : depR x m = some m2) : okL (cs ++ [x]) m2 :=
  ⟨fun y hy => by
    rcases List.mem_append.mp hy with z | z
    · exact h.1 y z
    · rw [List.mem_singleton.mp z]; exact hx, (dpL_app h.2).trans hd⟩
theorem okL.wh : ∀ {ws cs : List Int32}, okL cs (bns ws + 1) → okL (whA ws cs).1 (bns (whA ws cs).2 + 1) := by
  intro ws
  induction ws with
  | nil => intro cs h; exact h
  | cons x r ih =>
    intro cs h
    rw [whA_c]
    by_cases e : x = 33
    · rw [if_pos e]
      rw [bns_c, if_neg (by rw [e]; decide)] at h
      exact ih (h.put (Or.inr (Or.inl rfl)) (dep_b _))
    · rw [if_neg e]; exact h
theorem okL.se {s : Int32} : ∀ {ws cs : List Int32}, okL cs (bns ws + 1) → okL (seA s ws cs).1 (bns (seA s ws cs).2 + 1) := by
  intro ws
  induction ws with
  | nil => intro cs h; exact h
  | cons x r ih =>
    intro cs h
    rw [seA_c]
    by_cases e : x = 38
    · rw [if_pos e]
      rw [bns_c, if_pos (Or.inl e)] at h
      exact ih (h.put (by rw [e]; exact Or.inr (Or.inr (Or.inl rfl))) (dep_o (Or.inl e) _))
    · rw [if_neg e]
      by_cases e2 : x = 124
      · rw [if_pos e2]
        by_cases e3 : s = 38
        · rw [if_pos e3]; exact h
        · rw [if_neg e3]
          rw [bns_c, if_pos (Or.inr e2)] at h
          exact ih (h.put (by rw [e2]; exact Or.inr (Or.inr (Or.inr rfl))) (dep_o (Or.inr e2) _))
      · rw [if_neg e2]; exact h
theorem dg_c {x : Int32} (h : 48 ≤ x ∧ x ≤ 57) : ∃ c, 48 ≤ c ∧ c ≤ 57 ∧ x = nI c := in1_of (c := 48) (b := 57) (by decide) (by decide) h
theorem dg_1 : ∀ c, c ≤ 57 → 48 ≤ c → 10 * 0 + nI c - 48 = nI (c - 48) := by decide
theorem dg_2 : ∀ c, c ≤ 57 → 48 ≤ c → ∀ e, e ≤ 57 → 48 ≤ e → 10 * nI (c - 48) + nI e - 48 = nI (10 * (c - 48) + (e - 48)) := by decide +kernel
theorem nv_99 {X : Nat → Int32} {n a : Nat} (h : dgA X n a) : ∃ d, d ≤ 99 ∧ nvA X n a = nI d := by
  obtain ⟨c, c1, c2, ec⟩ := dg_c h
  unfold nvA
  by_cases h2 : dgA X n (a + 1)
  · obtain ⟨e, e1, e2, ee⟩ := dg_c h2
    rw [if_pos h2, ec, ee, dg_1 c c2 c1, dg_2 c c2 c1 e e2 e1]
    exact ⟨_, by omega, rfl⟩
  · rw [if_neg h2, ec, dg_1 c c2 c1]
    exact ⟨_, by omega, rfl⟩
theorem pl_c {c : Int32} (h : ¬ plA c < 0) : ∃ f, f ≤ 6 ∧ plA c = nI f := by
  unfold plA at h ⊢
  split at h
  · next e => rw [if_pos e]; exact ⟨4, by decide, rfl⟩
  next e1 =>
  rw [if_neg e1]
  split at h
  · next e => rw [if_pos e]; exact ⟨0, by decide, rfl⟩
  next e1 =>
  rw [if_neg e1]
  split at h
  · next e => rw [if_pos e]; exact ⟨1, by decide, rfl⟩
  next e1 =>
  rw [if_neg e1]
  split at h
  · next e => rw [if_pos e]; exact ⟨2, by decide, rfl⟩
  next e1 =>
  rw [if_neg e1]
  split at h
  · next e => rw [if_pos e]; exact ⟨3, by decide, rfl⟩
  next e1 =>
  rw [if_neg e1]
  split at h
  · next e => rw [if_pos e]; exact ⟨6, by decide, rfl⟩
  next e1 =>
  rw [if_neg e1]
  split at h
  · next e => rw [if_pos e]; exact ⟨5, by decide, rfl⟩
  · exact absurd (by decide) h
theorem cd_e : ∀ f, f ≤ 6 → ∀ s, s ≤ 62 → 60 ≤ s → 1000 * nI f + 100 * (nI s - 60) = nI (1000 * f + 100 * (s - 60)) := by decide +kernel
theorem ts_ok {X : Nat → Int32} {n a : Nat} (h : (tsA X n a).1 = true) : ∃ f s d, f ≤ 6 ∧ s ≤ 2 ∧ d ≤ 99 ∧ plA (nxA X n a) = nI f ∧ nxA X n (a + 1) = nI (s + 60) ∧ nvA X n (a + 2) = nI d ∧ (tsA X n a).2.2 = nI (1000 * f + 100 * s + d) := by
  unfold tsA at h ⊢
  split at h
  · exact absurd h Bool.false_ne_true
  next h1 =>
  rw [if_neg h1]
  split at h
  · exact absurd h Bool.false_ne_true
  next h2 =>
  rw [if_neg h2]
  split at h
  · exact absurd h Bool.false_ne_true
  next h3 =>
  rw [if_neg h3]
  obtain ⟨f, hf, ef⟩ := pl_c h1
  obtain ⟨s, s1, s2, es⟩ := in1_of (c := 60) (b := 62) (by decide) (by decide) (Decidable.not_not.mp h2)
  obtain ⟨d, hd, ed⟩ := nv_99 (Decidable.not_not.mp h3)
  refine ⟨f, s - 60, d, hf, by omega, hd, ef, by rw [es, show s - 60 + 60 = s by omega], ed, ?_⟩
  show 1000 * plA (nxA X n a) + 100 * (nxA X n (a + 1) - 60) + nvA X n (a + 2) = _
  rw [ef, es, ed, cd_e f hf s s2 s1, nI_add]
theorem am_ok {X : Nat → Int32} {n : Nat} : ∀ (f : Nat) (w : Bool) (a : Nat) (cs ws : List Int32), okW ws → okL cs (bns ws + (if w = true then 0 else 1)) → (amR X n f w a cs ws).1 = true → okL (amR X n f w a cs ws).2.2 1 := by
  intro f
  induction f with
  | zero => intro w a cs ws _ _ h; exact absurd h Bool.false_ne_true
  | succ f ih =>
    intro w a cs ws hw hL h
    cases w with
    | true =>
      rw [if_pos rfl, Nat.add_zero] at hL
      by_cases h1 : nxA X n a = 33 ∨ nxA X n a = 40
      · by_cases h4 : opn ws = 4
        · rw [am_o4 h1 h4] at h; exact absurd h Bool.false_ne_true
        · rw [am_o h1 h4] at h ⊢
          refine ih true _ _ _ (hw.cn (by rcases h1 with z | z <;> rw [z] <;> decide)) ?_ h
          rw [bns_c, if_neg (by rcases h1 with z | z <;> rw [z] <;> decide), if_pos rfl, Nat.add_zero]
          exact hL
      · by_cases h4 : (tsA X n a).1 = true
        · rw [am_t h1 h4] at h ⊢
          obtain ⟨q, s, d, q1, q2, q3, -, -, -, q4⟩ := ts_ok h4
          refine ih false _ _ _ (hw.wh _) ?_ h
          rw [if_neg Bool.false_ne_true]
          refine okL.wh (hL.put ?_ ?_)
          · rw [q4]; exact Or.inl ⟨_, by omega, rfl⟩
          · rw [q4]; exact dep_t (by omega)
        · rw [am_tf h1 h4] at h; exact absurd h Bool.false_ne_true
    | false =>
      rw [if_neg Bool.false_ne_true] at hL
      by_cases h1 : nxA X n a = 38 ∨ nxA X n a = 124
      · rw [am_b h1] at h ⊢
        refine ih true _ _ _ ((hw.se _).cn (by rcases h1 with z | z <;> rw [z] <;> decide)) ?_ h
        rw [bns_c, if_pos h1, if_pos rfl]
        exact hL.se
      · by_cases h2 : (seA 124 ws cs).2 = []
        · rw [am_e h1 h2]
          have := hL.se (s := 124)
          rw [h2] at this
          exact this
        · by_cases h3 : nxA X n a = 41
          · rw [am_c h1 h2 h3] at h ⊢
            obtain ⟨x, t, ext⟩ := List.exists_cons_of_ne_nil h2
            have q1 := hw.se (s := 124) cs
            have q2 := se_top ext
            have q3 := hL.se (s := 124)
            rw [ext] at q1 q3 h ⊢
            rw [bns_c, if_neg (by rintro (z | z); exact q2.1 z; exact q2.2 z)] at q3
            refine ih false _ _ _ (q1.tl.wh _) ?_ h
            rw [if_neg Bool.false_ne_true]
            exact okL.wh q3
          · rw [am_x h1 h2 h3] at h; exact absurd h Bool.false_ne_true
def okCl (x : Cl) : Prop := (x.1 = 0 ∨ x.1 = 1 ∨ x.1 = 2 ∨ x.1 = 3) ∧ (∃ v, v ≤ 99 ∧ x.2.1 = nI v) ∧ (¬ 1 < x.1 → okL x.2.2 1)
theorem hd_w {X : Nat → Int32} {n a : Nat} : (hdA X n a).2.2 = 0 ∨ (hdA X n a).2.2 = 1 ∨ (hdA X n a).2.2 = 2 ∨ (hdA X n a).2.2 = 3 := by
  unfold hdA
  split
  · split
    · exact Or.inr (Or.inr (Or.inl rfl))
    · exact Or.inr (Or.inl rfl)
  · split
    · exact Or.inl rfl
    · exact Or.inr (Or.inr (Or.inr rfl))
theorem clA_ok {X : Nat → Int32} {n a : Nat} (h : (clA X n a).1 = true) : okCl (clA X n a).2.2 := by
  by_cases h1 : (hdA X n a).1 = true
  · by_cases h2 : dgA X n (hdA X n a).2.1
    · by_cases h3 : 1 < (hdA X n a).2.2
      · rw [cl_w h1 h2 h3]; exact ⟨hd_w, nv_99 h2, fun z => absurd h3 z⟩
      · by_cases h4 : nxA X n (nuA X n (hdA X n a).2.1) = 32
        · rw [cl_E h1 h2 h3 h4] at h ⊢
          exact ⟨hd_w, nv_99 h2, fun _ => am_ok 101 true _ [] [] (fun _ z => absurd z List.not_mem_nil) ⟨fun _ z => absurd z List.not_mem_nil, rfl⟩ h⟩
        · rw [cl_s h1 h2 h3 h4] at h; exact absurd h Bool.false_ne_true
    · rw [cl_n h1 h2] at h; exact absurd h Bool.false_ne_true
  · rw [cl_h h1] at h; exact absurd h Bool.false_ne_true
theorem gt_ok {X : Nat → Int32} {n : Nat} : ∀ (f a : Nat) (l : List Cl), l.length + f = 10 → (∀ x, x ∈ l → okCl x) → (gtA X n f a l).1 = true → (∀ x, x ∈ (gtA X n f a l).2.2 → okCl x) ∧ 1 ≤ (gtA X n f a l).2.2.length ∧ (gtA X n f a l).2.2.length ≤ 10 := by
  intro f
  induction f with
  | zero => intro a l _ _ h; exact absurd h Bool.false_ne_true
  | succ f ih =>
    intro a l hl hk h
    by_cases h1 : (clA X n a).1 = true
    · have hk2 : ∀ x, x ∈ l ++ [(clA X n a).2.2] → okCl x := fun x hx => by
        rcases List.mem_append.mp hx with z | z
        · exact hk x z
        · rw [List.mem_singleton.mp z]; exact clA_ok h1
      have eln : (l ++ [(clA X n a).2.2]).length = l.length + 1 := by simp
      by_cases h2 : (clA X n a).2.1 = n
      · rw [gt_e h1 h2]
        exact ⟨hk2, by show 1 ≤ (l ++ [(clA X n a).2.2]).length; omega, by show (l ++ [(clA X n a).2.2]).length ≤ 10; omega⟩
      · by_cases h3 : l.length + 1 = 10
        · rw [gt_10 h1 h2 h3] at h; exact absurd h Bool.false_ne_true
        · by_cases h4 : nxA X n (clA X n a).2.1 = 59
          · rw [gt_s h1 h2 h3 h4] at h ⊢
            exact ih _ _ (by omega) hk2 h
          · rw [gt_x h1 h2 h3 h4] at h; exact absurd h Bool.false_ne_true
    · rw [gt_f h1] at h; exact absurd h Bool.false_ne_true
/-! the picture -/
theorem wf_dp {E : It} : ∀ (cs : List Int32) (fr n : Nat), CD fr E cs → dpL cs n = some 1 → wfR E cs.length fr n = true := by
  intro cs
  induction cs with
  | nil => intro fr n _ h; cases h; rfl
  | cons x r ih =>
    intro fr n hc h
    have e0 : E 15 fr = x := hc 0 (by simp)
    rw [List.length_cons, wfR_s, e0]
    rw [dpL_c] at h
    cases e : depR x n with
    | none => rw [e] at h; cases h
    | some m =>
      rw [e] at h
      refine ih (fr + 1) m (fun i hi => ?_) h
      have := hc (i + 1) (by simp only [List.length_cons]; omega)
      rw [show fr + (i + 1) = fr + 1 + i by omega] at this
      rw [this]
      simp
theorem wfR_mv {E E2 : It} {b : Nat} (h : ∀ j, j < b → E2 15 j = E 15 j) : ∀ (k c n : Nat), c + k ≤ b → wfR E2 k c n = wfR E k c n := by
  intro k
  induction k with
  | zero => intro c n _; rfl
  | succ k ih =>
    intro c n hb
    rw [wfR_s, wfR_s, h c (by omega)]
    cases depR (E 15 c) n with
    | none => rfl
    | some m => exact ih (c + 1) m (by omega)
theorem clOk_mv {E E2 : It} {p q c : Nat} (hq : q < p) (h1 : E2 11 c = E 11 c ∧ E2 12 c = E 12 c ∧ E2 13 c = E 13 c ∧ E2 14 c = E 14 c) (h2 : ∀ j, j < 100 * p → E2 15 j = E 15 j) (hc : clOk E q c) : clOk E2 q c := by
  unfold clOk at hc ⊢
  rw [h1.1, h1.2.1, h1.2.2.1, h1.2.2.2]
  refine ⟨hc.1, hc.2.1, fun w => ?_⟩
  obtain ⟨a, b, e1, e2, e3, e4, e5, e6, e7⟩ := hc.2.2 w
  exact ⟨a, b, e1, e2, e3, e4, e5, by rw [wfR_mv h2 _ _ _ (by omega)]; exact e6, fun j j1 j2 => by rw [h2 j (by omega)]; exact e7 j j1 j2⟩
theorem clOk_of {E : It} {p c fr : Nat} {x : Cl} (h : CLr E c fr x) (hx : okCl x) (h1 : 100 * p ≤ fr) (h2 : fr + x.2.2.length ≤ 100 * p + 100) : clOk E p c := by
  obtain ⟨e1, e2, e3⟩ := h
  obtain ⟨x1, x2, x3⟩ := hx
  refine ⟨by rw [e1]; exact x1, by rw [e2]; exact x2, fun w => ?_⟩
  have hw : ¬ 1 < x.1 := by
    rw [e1] at w
    rcases w with w | w <;> rw [w] <;> decide
  obtain ⟨g1, g2, g3⟩ := e3 hw
  obtain ⟨k1, k2⟩ := x3 hw
  refine ⟨fr, fr + x.2.2.length, g1, g2, h1, by omega, h2, ?_, fun j j1 j2 => ?_⟩
  · rw [show fr + x.2.2.length - fr = x.2.2.length by omega]
    exact wf_dp _ _ _ g3 k2
  · have hi : j - fr < x.2.2.length := by omega
    have := g3 (j - fr) hi
    rw [show fr + (j - fr) = j by omega] at this
    have hm : x.2.2.getD (j - fr) 0 ∈ x.2.2 := by
      rw [List.getD_eq_getElem?_getD, List.getElem?_eq_getElem hi]
      exact List.getElem_mem hi
    rw [this]
    rcases k1 _ hm with ⟨t, ht, et⟩ | z | z | z
    · exact ⟨t, ht, Or.inl et⟩
    · exact ⟨0, by decide, Or.inr (Or.inl z)⟩
    · exact ⟨0, by decide, Or.inr (Or.inr (Or.inl z))⟩
    · exact ⟨0, by decide, Or.inr (Or.inr (Or.inr z))⟩
theorem STc_at {E : It} {p : Nat} : ∀ {l : List Cl} {k fr : Nat}, STc E p l k fr → ∀ c, c < l.length → ∃ x fr2, x ∈ l ∧ CLr E (10 * p + (k + c)) fr2 x ∧ fr ≤ fr2 ∧ fr2 + x.2.2.length ≤ fr + tot l := by
  intro l
  induction l with
  | nil => intro k fr _ c hc; exact absurd hc (Nat.not_lt_zero c)
  | cons y r ih =>
    intro k fr h c hc
    rw [List.length_cons] at hc
    rw [tot_c]
    cases c with
    | zero => exact ⟨y, fr, List.mem_cons_self, h.1, Nat.le_refl _, by omega⟩
    | succ c =>
      obtain ⟨x, fr2, q1, q2, q3, q4⟩ := ih h.2 c (by omega)
      exact ⟨x, fr2, List.mem_cons_of_mem _ q1, by rw [show k + (c + 1) = k + 1 + c by omega]; exact q2, by omega, by omega⟩
theorem partOk_up {n w the rows kn idl : Int32} {kd v rd pl co ne od hr rw rdd : Nat → Int32} {p : Nat} (h : partOk n w the rows kn idl kd v rd pl co ne od hr rw rdd p) : partOk n w the rows kn idl kd v rd pl co ne od hr rw rdd (p + 1) := by
  obtain ⟨h1, h2, h3, h4⟩ := h
  refine ⟨h1, h2, ?_, h4⟩
  rcases h3 with z | ⟨x, hx, e⟩
  · exact Or.inl z
  · exact Or.inr ⟨x, by omega, e⟩
theorem PN.inv {E E2 : It} {l : List Cl} (hE : Inv E) (hp : nP E < 6) (h : PN E E2 l) (hk : ∀ x, x ∈ l → okCl x) (h1 : 1 ≤ l.length) (h10 : l.length ≤ 10) : Inv E2 := by
  obtain ⟨⟨z15, z16, z17⟩, f0, fC, f10, f11, f15, g10, gS, gt⟩ := h
  have hn : nP E2 = nP E + 1 := by unfold nP at *; rw [z15, tN_nI (by omega)]
  refine ⟨?_, ?_, ⟨by rw [hn]; exact z15, by omega⟩, fun p hpp => ?_, ⟨0, by decide, z17, fun j hj => absurd hj (Nat.not_lt_zero j)⟩, ?_, ?_⟩
  · rw [hn, f0 0 (by decide), f0 1 (by decide), f0 44 (by decide), f0 5 (by decide), f0 6 (by decide), fC 1 (by decide), fC 2 (by decide), fC 3 (by decide), fC 4 (by decide), fC 5 (by decide), fC 6 (by decide), fC 7 (by decide), fC 8 (by decide), fC 23 (by decide), fC 24 (by decide), z16]
    obtain ⟨q1, q2, -, q4⟩ := hE.1
    exact ⟨q1, q2, Or.inr ⟨nP E, by omega, rfl⟩, q4⟩
  · have := hE.2.1
    have h2 : iM E2 (nP E) := iM_cg hE.2.1 (fun j hj => f0 j (by intro z; revert hj z; simp; omega)) (fun a ha => fC a (by intro z; revert ha z; simp; omega))
    rw [hn]
    rcases h2 with z | ⟨z, q⟩
    · exact Or.inl z
    · exact Or.inr ⟨z, partOk_up q⟩
  · rw [hn] at hpp
    by_cases e : p = nP E
    · subst e
      refine ⟨l.length, h1, h10, g10, fun c hc => ?_⟩
      obtain ⟨x, fr2, q1, q2, q3, q4⟩ := STc_at gS c hc
      rw [Nat.zero_add] at q2
      exact clOk_of q2 (hk x q1) q3 (by omega)
    · have hlt : p < nP E := by omega
      obtain ⟨x, x1, x2, x3, x4⟩ := hE.2.2.2.1 p hlt
      exact ⟨x, x1, x2, by rw [f10 p hlt]; exact x3, fun c hc => clOk_mv hlt (f11 _ (by omega)) f15 (x4 c hc)⟩
  · rw [f0 67 (by decide)]; exact hE.2.2.2.2.2.1
  · rw [fC 36 (by decide), fC 37 (by decide)]; exact hE.2.2.2.2.2.2
theorem Inv.f17 {E : It} (hE : Inv E) : Inv (upI E 0 17 0) :=
  hE.cg (iP_cg hE.1 (fun j hj => upn (fun z => absurd hj (by rw [z.2]; decide))) (fun a ha => upI_off (by rintro rfl; revert ha; decide))) (iM_cg hE.2.1 (fun j hj => upn (fun z => absurd hj (by rw [z.2]; decide))) (fun a ha => upI_off (by rintro rfl; revert ha; decide))) rfl (fun a ha => upI_off (by rintro rfl; revert ha; decide)) ⟨0, by decide, rfl, fun j hj => absurd hj (Nat.not_lt_zero j)⟩ hE.2.2.2.2.2.1 hE.2.2.2.2.2.2
theorem PoS.inv {E E2 : It} {v : Int32} (hE : Inv E) (h : PoS E E2 v) : Inv E2 := by
  rcases h with ⟨-, -, rfl⟩ | ⟨-, -, -, rfl⟩ | ⟨hp, hr, -, h⟩
  · exact hE
  · exact hE.f17
  · obtain ⟨q1, q2, q3⟩ := gt_ok 10 0 [] rfl (fun _ z => absurd z List.not_mem_nil) hr
    exact h.inv hE hp q1 q2 q3
/-- nothing that is compared without posts is changed by a post -/
theorem PoS.eE {E E2 : It} {v : Int32} (h : PoS E E2 v) : (∀ j, j ∈ [0, 1, 6, 44, 47, 49, 50, 55, 56, 67] → E2 0 j = E 0 j) ∧ ∀ a, a ∈ [1, 2, 3, 4, 5, 6, 7, 8, 25, 26, 27, 28, 29, 30, 31, 32, 35, 36, 37] → E2 a = E a := by
  rcases h with ⟨-, -, rfl⟩ | ⟨-, -, -, rfl⟩ | ⟨hp, hr, -, -, f0, fC, -⟩
  · exact ⟨fun _ _ => rfl, fun _ _ => rfl⟩
  · exact ⟨fun j hj => upn (fun z => absurd hj (by rw [z.2]; decide)), fun a ha => upI_off (by rintro rfl; revert ha; decide)⟩
  · exact ⟨fun j hj => f0 j (by intro z; revert hj z; simp; omega), fun a ha => fC a (by intro z; revert ha z; simp; omega)⟩
end
section
set_option maxRecDepth 20000 in
theorem DL_0 : dcl code [(0, .new 7, 3, 3), (3, .dup, 1, 4), (4, .invokespecial 9, 3, 7), (7, .astore_n 1, 1, 8), (8, .new 10, 3, 11), (11, .dup, 1, 12), (12, .invokespecial 12, 3, 15), (15, .astore_n 2, 1, 16), (16, .iconst 0, 1, 17), (17, .istore_n 3, 1, 18), (18, .iload_n 3, 1, 19), (19, .aload_n 0, 1, 20), (20, .arraylength, 1, 21), (21, .bipush 7, 2, 23), (23, .isub, 1, 24), (24, .if_icmp .gt 1289, 3, 27), (27, .aload_n 0, 1, 28), (28, .iload_n 3, 1, 29), (29, .iaload, 1, 30), (30, .bipush 63, 2, 32), (32, .iand, 1, 33), (33, .tableswitch 1274 0 34 #[155, 230, 263, 312, 361, 394, 427, 450, 463, 486, 519, 532, 555, 588, 631, 664, 687, 710, 733, 766, 789, 822, 835, 848, 881, 914, 927, 940, 983, 1006, 1039, 1062, 1105, 1178, 1211], 155, 188), (188, .aload_n 1, 1, 189), (189, .aload_n 0, 1, 190), (190, .iload_n 3, 1, 191), (191, .iconst 1, 1, 192), (192, .iadd, 1, 193), (193, .iaload, 1, 194), (194, .aload_n 0, 1, 195), (195, .iload_n 3, 1, 196), (196, .iconst 2, 1, 197), (197, .iadd, 1, 198), (198, .iaload, 1, 199), (199, .aload_n 0, 1, 200), (200, .iload_n 3, 1, 201), (201, .iconst 3, 1, 202), (202, .iadd, 1, 203), (203, .iaload, 1, 204), (204, .aload_n 0, 1, 205), (205, .iload_n 3, 1, 206), (206, .iconst 4, 1, 207), (207, .iadd, 1, 208), (208, .iaload, 1, 209), (209, .aload_n 0, 1, 210), (210, .iload_n 3, 1, 211), (211, .iconst 5, 1, 212), (212, .iadd, 1, 213), (213, .iaload, 1, 214), (214, .aload_n 0, 1, 215), (215, .iload_n 3, 1, 216)] := by unfold dcl; decide +kernel
set_option maxRecDepth 20000 in
theorem DL_1 : dcl code [(216, .bipush 6, 2, 218), (218, .iadd, 1, 219), (219, .iaload, 1, 220), (220, .invokevirtual 13, 3, 223), (223, .pop, 1, 224), (224, .aload_n 2, 1, 225), (225, .aload_n 0, 1, 226), (226, .iload_n 3, 1, 227), (227, .iconst 1, 1, 228), (228, .iadd, 1, 229), (229, .iaload, 1, 230), (230, .aload_n 0, 1, 231), (231, .iload_n 3, 1, 232), (232, .iconst 2, 1, 233), (233, .iadd, 1, 234), (234, .iaload, 1, 235), (235, .aload_n 0, 1, 236), (236, .iload_n 3, 1, 237), (237, .iconst 3, 1, 238), (238, .iadd, 1, 239), (239, .iaload, 1, 240), (240, .aload_n 0, 1, 241), (241, .iload_n 3, 1, 242), (242, .iconst 4, 1, 243), (243, .iadd, 1, 244), (244, .iaload, 1, 245), (245, .aload_n 0, 1, 246), (246, .iload_n 3, 1, 247), (247, .iconst 5, 1, 248), (248, .iadd, 1, 249), (249, .iaload, 1, 250), (250, .aload_n 0, 1, 251), (251, .iload_n 3, 1, 252), (252, .bipush 6, 2, 254), (254, .iadd, 1, 255), (255, .iaload, 1, 256), (256, .invokevirtual 17, 3, 259), (259, .pop, 1, 260), (260, .goto 1047, 3, 263), (263, .aload_n 1, 1, 264), (264, .aload_n 0, 1, 265), (265, .iload_n 3, 1, 266), (266, .iconst 1, 1, 267), (267, .iadd, 1, 268), (268, .iaload, 1, 269), (269, .aload_n 0, 1, 270), (270, .iload_n 3, 1, 271), (271, .iconst 2, 1, 272), (272, .iadd, 1, 273), (273, .iaload, 1, 274)] := by unfold dcl; decide +kernel
set_option maxRecDepth 20000 in
theorem DL_2 : dcl code [(274, .invokevirtual 18, 3, 277), (277, .pop, 1, 278), (278, .aload_n 2, 1, 279), (279, .aload_n 0, 1, 280), (280, .iload_n 3, 1, 281), (281, .iconst 1, 1, 282), (282, .iadd, 1, 283), (283, .iaload, 1, 284), (284, .aload_n 0, 1, 285), (285, .iload_n 3, 1, 286), (286, .iconst 2, 1, 287), (287, .iadd, 1, 288), (288, .iaload, 1, 289), (289, .invokevirtual 22, 3, 292), (292, .pop, 1, 293), (293, .goto 1014, 3, 296), (296, .aload_n 1, 1, 297), (297, .aload_n 0, 1, 298), (298, .iload_n 3, 1, 299), (299, .iconst 1, 1, 300), (300, .iadd, 1, 301), (301, .iaload, 1, 302), (302, .aload_n 0, 1, 303), (303, .iload_n 3, 1, 304), (304, .iconst 2, 1, 305), (305, .iadd, 1, 306), (306, .iaload, 1, 307), (307, .ifCond .eq 7, 3, 310), (310, .iconst 1, 1, 311), (311, .goto 4, 3, 314), (314, .iconst 0, 1, 315), (315, .invokevirtual 23, 3, 318), (318, .pop, 1, 319), (319, .aload_n 2, 1, 320), (320, .aload_n 0, 1, 321), (321, .iload_n 3, 1, 322), (322, .iconst 1, 1, 323), (323, .iadd, 1, 324), (324, .iaload, 1, 325), (325, .aload_n 0, 1, 326), (326, .iload_n 3, 1, 327), (327, .iconst 2, 1, 328), (328, .iadd, 1, 329), (329, .iaload, 1, 330), (330, .ifCond .eq 7, 3, 333), (333, .iconst 1, 1, 334), (334, .goto 4, 3, 337), (337, .iconst 0, 1, 338), (338, .invokevirtual 27, 3, 341), (341, .pop, 1, 342)] := by unfold dcl; decide +kernel
set_option maxRecDepth 20000 in
theorem DL_3 : dcl code [(342, .goto 965, 3, 345), (345, .aload_n 1, 1, 346), (346, .aload_n 0, 1, 347), (347, .iload_n 3, 1, 348), (348, .iconst 1, 1, 349), (349, .iadd, 1, 350), (350, .iaload, 1, 351), (351, .aload_n 0, 1, 352), (352, .iload_n 3, 1, 353), (353, .iconst 2, 1, 354), (354, .iadd, 1, 355), (355, .iaload, 1, 356), (356, .ifCond .eq 7, 3, 359), (359, .iconst 1, 1, 360), (360, .goto 4, 3, 363), (363, .iconst 0, 1, 364), (364, .invokevirtual 28, 3, 367), (367, .pop, 1, 368), (368, .aload_n 2, 1, 369), (369, .aload_n 0, 1, 370), (370, .iload_n 3, 1, 371), (371, .iconst 1, 1, 372), (372, .iadd, 1, 373), (373, .iaload, 1, 374), (374, .aload_n 0, 1, 375), (375, .iload_n 3, 1, 376), (376, .iconst 2, 1, 377), (377, .iadd, 1, 378), (378, .iaload, 1, 379), (379, .ifCond .eq 7, 3, 382), (382, .iconst 1, 1, 383), (383, .goto 4, 3, 386), (386, .iconst 0, 1, 387), (387, .invokevirtual 31, 3, 390), (390, .pop, 1, 391), (391, .goto 916, 3, 394), (394, .aload_n 1, 1, 395), (395, .aload_n 0, 1, 396), (396, .iload_n 3, 1, 397), (397, .iconst 1, 1, 398), (398, .iadd, 1, 399), (399, .iaload, 1, 400), (400, .aload_n 0, 1, 401), (401, .iload_n 3, 1, 402), (402, .iconst 2, 1, 403), (403, .iadd, 1, 404), (404, .iaload, 1, 405), (405, .invokevirtual 32, 3, 408), (408, .pop, 1, 409), (409, .aload_n 2, 1, 410)] := by unfold dcl; decide +kernel
set_option maxRecDepth 20000 in
theorem DL_4 : dcl code [(410, .aload_n 0, 1, 411), (411, .iload_n 3, 1, 412), (412, .iconst 1, 1, 413), (413, .iadd, 1, 414), (414, .iaload, 1, 415), (415, .aload_n 0, 1, 416), (416, .iload_n 3, 1, 417), (417, .iconst 2, 1, 418), (418, .iadd, 1, 419), (419, .iaload, 1, 420), (420, .invokevirtual 35, 3, 423), (423, .pop, 1, 424), (424, .goto 883, 3, 427), (427, .aload_n 1, 1, 428), (428, .aload_n 0, 1, 429), (429, .iload_n 3, 1, 430), (430, .iconst 1, 1, 431), (431, .iadd, 1, 432), (432, .iaload, 1, 433), (433, .aload_n 0, 1, 434), (434, .iload_n 3, 1, 435), (435, .iconst 2, 1, 436), (436, .iadd, 1, 437), (437, .iaload, 1, 438), (438, .invokevirtual 36, 3, 441), (441, .pop, 1, 442), (442, .aload_n 2, 1, 443), (443, .aload_n 0, 1, 444), (444, .iload_n 3, 1, 445), (445, .iconst 1, 1, 446), (446, .iadd, 1, 447), (447, .iaload, 1, 448), (448, .aload_n 0, 1, 449), (449, .iload_n 3, 1, 450), (450, .iconst 2, 1, 451), (451, .iadd, 1, 452), (452, .iaload, 1, 453), (453, .invokevirtual 39, 3, 456), (456, .pop, 1, 457), (457, .goto 850, 3, 460), (460, .aload_n 1, 1, 461), (461, .aload_n 0, 1, 462), (462, .iload_n 3, 1, 463), (463, .iconst 1, 1, 464), (464, .iadd, 1, 465), (465, .iaload, 1, 466), (466, .invokevirtual 40, 3, 469), (469, .pop, 1, 470), (470, .aload_n 2, 1, 471), (471, .aload_n 0, 1, 472)] := by unfold dcl; decide +kernel
set_option maxRecDepth 20000 in
theorem DL_5 : dcl code [(472, .iload_n 3, 1, 473), (473, .iconst 1, 1, 474), (474, .iadd, 1, 475), (475, .iaload, 1, 476), (476, .invokevirtual 44, 3, 479), (479, .pop, 1, 480), (480, .goto 827, 3, 483), (483, .aload_n 1, 1, 484), (484, .invokevirtual 45, 3, 487), (487, .pop, 1, 488), (488, .aload_n 2, 1, 489), (489, .invokevirtual 49, 3, 492), (492, .pop, 1, 493), (493, .goto 814, 3, 496), (496, .aload_n 1, 1, 497), (497, .aload_n 0, 1, 498), (498, .iload_n 3, 1, 499), (499, .iconst 1, 1, 500), (500, .iadd, 1, 501), (501, .iaload, 1, 502), (502, .invokevirtual 50, 3, 505), (505, .pop, 1, 506), (506, .aload_n 2, 1, 507), (507, .aload_n 0, 1, 508), (508, .iload_n 3, 1, 509), (509, .iconst 1, 1, 510), (510, .iadd, 1, 511), (511, .iaload, 1, 512), (512, .invokevirtual 53, 3, 515), (515, .pop, 1, 516), (516, .goto 791, 3, 519), (519, .aload_n 1, 1, 520), (520, .aload_n 0, 1, 521), (521, .iload_n 3, 1, 522), (522, .iconst 1, 1, 523), (523, .iadd, 1, 524), (524, .iaload, 1, 525), (525, .aload_n 0, 1, 526), (526, .iload_n 3, 1, 527), (527, .iconst 2, 1, 528), (528, .iadd, 1, 529), (529, .iaload, 1, 530), (530, .invokevirtual 54, 3, 533), (533, .pop, 1, 534), (534, .aload_n 2, 1, 535), (535, .aload_n 0, 1, 536), (536, .iload_n 3, 1, 537), (537, .iconst 1, 1, 538), (538, .iadd, 1, 539), (539, .iaload, 1, 540)] := by unfold dcl; decide +kernel
set_option maxRecDepth 20000 in
theorem DL_6 : dcl code [(540, .aload_n 0, 1, 541), (541, .iload_n 3, 1, 542), (542, .iconst 2, 1, 543), (543, .iadd, 1, 544), (544, .iaload, 1, 545), (545, .invokevirtual 57, 3, 548), (548, .pop, 1, 549), (549, .goto 758, 3, 552), (552, .aload_n 1, 1, 553), (553, .invokevirtual 58, 3, 556), (556, .pop, 1, 557), (557, .aload_n 2, 1, 558), (558, .invokevirtual 61, 3, 561), (561, .pop, 1, 562), (562, .goto 745, 3, 565), (565, .aload_n 1, 1, 566), (566, .aload_n 0, 1, 567), (567, .iload_n 3, 1, 568), (568, .iconst 1, 1, 569), (569, .iadd, 1, 570), (570, .iaload, 1, 571), (571, .invokevirtual 62, 3, 574), (574, .pop, 1, 575), (575, .aload_n 2, 1, 576), (576, .aload_n 0, 1, 577), (577, .iload_n 3, 1, 578), (578, .iconst 1, 1, 579), (579, .iadd, 1, 580), (580, .iaload, 1, 581), (581, .invokevirtual 65, 3, 584), (584, .pop, 1, 585), (585, .goto 722, 3, 588), (588, .aload_n 1, 1, 589), (589, .aload_n 0, 1, 590), (590, .iload_n 3, 1, 591), (591, .iconst 1, 1, 592), (592, .iadd, 1, 593), (593, .iaload, 1, 594), (594, .aload_n 0, 1, 595), (595, .iload_n 3, 1, 596), (596, .iconst 2, 1, 597), (597, .iadd, 1, 598), (598, .iaload, 1, 599), (599, .invokevirtual 66, 3, 602), (602, .pop, 1, 603), (603, .aload_n 2, 1, 604), (604, .aload_n 0, 1, 605), (605, .iload_n 3, 1, 606), (606, .iconst 1, 1, 607), (607, .iadd, 1, 608)] := by unfold dcl; decide +kernel
set_option maxRecDepth 20000 in
theorem DL_7 : dcl code [(608, .iaload, 1, 609), (609, .aload_n 0, 1, 610), (610, .iload_n 3, 1, 611), (611, .iconst 2, 1, 612), (612, .iadd, 1, 613), (613, .iaload, 1, 614), (614, .invokevirtual 69, 3, 617), (617, .pop, 1, 618), (618, .goto 689, 3, 621), (621, .aload_n 1, 1, 622), (622, .aload_n 0, 1, 623), (623, .iload_n 3, 1, 624), (624, .iconst 1, 1, 625), (625, .iadd, 1, 626), (626, .iaload, 1, 627), (627, .aload_n 0, 1, 628), (628, .iload_n 3, 1, 629), (629, .iconst 2, 1, 630), (630, .iadd, 1, 631), (631, .iaload, 1, 632), (632, .aload_n 0, 1, 633), (633, .iload_n 3, 1, 634), (634, .iconst 3, 1, 635), (635, .iadd, 1, 636), (636, .iaload, 1, 637), (637, .invokevirtual 70, 3, 640), (640, .pop, 1, 641), (641, .aload_n 2, 1, 642), (642, .aload_n 0, 1, 643), (643, .iload_n 3, 1, 644), (644, .iconst 1, 1, 645), (645, .iadd, 1, 646), (646, .iaload, 1, 647), (647, .aload_n 0, 1, 648), (648, .iload_n 3, 1, 649), (649, .iconst 2, 1, 650), (650, .iadd, 1, 651), (651, .iaload, 1, 652), (652, .aload_n 0, 1, 653), (653, .iload_n 3, 1, 654), (654, .iconst 3, 1, 655), (655, .iadd, 1, 656), (656, .iaload, 1, 657), (657, .invokevirtual 74, 3, 660), (660, .pop, 1, 661), (661, .goto 646, 3, 664), (664, .aload_n 1, 1, 665), (665, .aload_n 0, 1, 666), (666, .iload_n 3, 1, 667), (667, .iconst 1, 1, 668)] := by unfold dcl; decide +kernel
set_option maxRecDepth 20000 in
theorem DL_8 : dcl code [(668, .iadd, 1, 669), (669, .iaload, 1, 670), (670, .aload_n 0, 1, 671), (671, .iload_n 3, 1, 672), (672, .iconst 2, 1, 673), (673, .iadd, 1, 674), (674, .iaload, 1, 675), (675, .invokevirtual 75, 3, 678), (678, .pop, 1, 679), (679, .aload_n 2, 1, 680), (680, .aload_n 0, 1, 681), (681, .iload_n 3, 1, 682), (682, .iconst 1, 1, 683), (683, .iadd, 1, 684), (684, .iaload, 1, 685), (685, .aload_n 0, 1, 686), (686, .iload_n 3, 1, 687), (687, .iconst 2, 1, 688), (688, .iadd, 1, 689), (689, .iaload, 1, 690), (690, .invokevirtual 78, 3, 693), (693, .pop, 1, 694), (694, .goto 613, 3, 697), (697, .aload_n 1, 1, 698), (698, .aload_n 0, 1, 699), (699, .iload_n 3, 1, 700), (700, .iconst 1, 1, 701), (701, .iadd, 1, 702), (702, .iaload, 1, 703), (703, .invokevirtual 79, 3, 706), (706, .pop, 1, 707), (707, .aload_n 2, 1, 708), (708, .aload_n 0, 1, 709), (709, .iload_n 3, 1, 710), (710, .iconst 1, 1, 711), (711, .iadd, 1, 712), (712, .iaload, 1, 713), (713, .invokevirtual 82, 3, 716), (716, .pop, 1, 717), (717, .goto 590, 3, 720), (720, .aload_n 1, 1, 721), (721, .aload_n 0, 1, 722), (722, .iload_n 3, 1, 723), (723, .iconst 1, 1, 724), (724, .iadd, 1, 725), (725, .iaload, 1, 726), (726, .invokevirtual 83, 3, 729), (729, .pop, 1, 730), (730, .aload_n 2, 1, 731), (731, .aload_n 0, 1, 732)] := by unfold dcl; decide +kernel
end
section
set_option maxRecDepth 20000 in
theorem DL_9 : dcl code [(732, .iload_n 3, 1, 733), (733, .iconst 1, 1, 734), (734, .iadd, 1, 735), (735, .iaload, 1, 736), (736, .invokevirtual 86, 3, 739), (739, .pop, 1, 740), (740, .goto 567, 3, 743), (743, .aload_n 1, 1, 744), (744, .aload_n 0, 1, 745), (745, .iload_n 3, 1, 746), (746, .iconst 1, 1, 747), (747, .iadd, 1, 748), (748, .iaload, 1, 749), (749, .invokevirtual 87, 3, 752), (752, .pop, 1, 753), (753, .aload_n 2, 1, 754), (754, .aload_n 0, 1, 755), (755, .iload_n 3, 1, 756), (756, .iconst 1, 1, 757), (757, .iadd, 1, 758), (758, .iaload, 1, 759), (759, .invokevirtual 90, 3, 762), (762, .pop, 1, 763), (763, .goto 544, 3, 766), (766, .aload_n 1, 1, 767), (767, .aload_n 0, 1, 768), (768, .iload_n 3, 1, 769), (769, .iconst 1, 1, 770), (770, .iadd, 1, 771), (771, .iaload, 1, 772), (772, .aload_n 0, 1, 773), (773, .iload_n 3, 1, 774), (774, .iconst 2, 1, 775), (775, .iadd, 1, 776), (776, .iaload, 1, 777), (777, .invokevirtual 91, 3, 780), (780, .pop, 1, 781), (781, .aload_n 2, 1, 782), (782, .aload_n 0, 1, 783), (783, .iload_n 3, 1, 784), (784, .iconst 1, 1, 785), (785, .iadd, 1, 786), (786, .iaload, 1, 787), (787, .aload_n 0, 1, 788), (788, .iload_n 3, 1, 789), (789, .iconst 2, 1, 790), (790, .iadd, 1, 791), (791, .iaload, 1, 792), (792, .invokevirtual 94, 3, 795), (795, .pop, 1, 796)] := by unfold dcl; decide +kernel
set_option maxRecDepth 20000 in
theorem DL_10 : dcl code [(796, .goto 511, 3, 799), (799, .aload_n 1, 1, 800), (800, .aload_n 0, 1, 801), (801, .iload_n 3, 1, 802), (802, .iconst 1, 1, 803), (803, .iadd, 1, 804), (804, .iaload, 1, 805), (805, .invokevirtual 95, 3, 808), (808, .pop, 1, 809), (809, .aload_n 2, 1, 810), (810, .aload_n 0, 1, 811), (811, .iload_n 3, 1, 812), (812, .iconst 1, 1, 813), (813, .iadd, 1, 814), (814, .iaload, 1, 815), (815, .invokevirtual 98, 3, 818), (818, .pop, 1, 819), (819, .goto 488, 3, 822), (822, .aload_n 1, 1, 823), (823, .aload_n 0, 1, 824), (824, .iload_n 3, 1, 825), (825, .iconst 1, 1, 826), (826, .iadd, 1, 827), (827, .iaload, 1, 828), (828, .aload_n 0, 1, 829), (829, .iload_n 3, 1, 830), (830, .iconst 2, 1, 831), (831, .iadd, 1, 832), (832, .iaload, 1, 833), (833, .invokevirtual 99, 3, 836), (836, .pop, 1, 837), (837, .aload_n 2, 1, 838), (838, .aload_n 0, 1, 839), (839, .iload_n 3, 1, 840), (840, .iconst 1, 1, 841), (841, .iadd, 1, 842), (842, .iaload, 1, 843), (843, .aload_n 0, 1, 844), (844, .iload_n 3, 1, 845), (845, .iconst 2, 1, 846), (846, .iadd, 1, 847), (847, .iaload, 1, 848), (848, .invokevirtual 102, 3, 851), (851, .pop, 1, 852), (852, .goto 455, 3, 855), (855, .aload_n 1, 1, 856), (856, .invokevirtual 103, 3, 859), (859, .pop, 1, 860), (860, .aload_n 2, 1, 861), (861, .invokevirtual 106, 3, 864)] := by unfold dcl; decide +kernel
set_option maxRecDepth 20000 in
theorem DL_11 : dcl code [(864, .pop, 1, 865), (865, .goto 442, 3, 868), (868, .aload_n 1, 1, 869), (869, .invokevirtual 107, 3, 872), (872, .pop, 1, 873), (873, .aload_n 2, 1, 874), (874, .invokevirtual 110, 3, 877), (877, .pop, 1, 878), (878, .goto 429, 3, 881), (881, .aload_n 1, 1, 882), (882, .aload_n 0, 1, 883), (883, .iload_n 3, 1, 884), (884, .iconst 1, 1, 885), (885, .iadd, 1, 886), (886, .iaload, 1, 887), (887, .aload_n 0, 1, 888), (888, .iload_n 3, 1, 889), (889, .iconst 2, 1, 890), (890, .iadd, 1, 891), (891, .iaload, 1, 892), (892, .invokevirtual 111, 3, 895), (895, .pop2, 1, 896), (896, .aload_n 2, 1, 897), (897, .aload_n 0, 1, 898), (898, .iload_n 3, 1, 899), (899, .iconst 1, 1, 900), (900, .iadd, 1, 901), (901, .iaload, 1, 902), (902, .aload_n 0, 1, 903), (903, .iload_n 3, 1, 904), (904, .iconst 2, 1, 905), (905, .iadd, 1, 906), (906, .iaload, 1, 907), (907, .invokevirtual 115, 3, 910), (910, .pop2, 1, 911), (911, .goto 396, 3, 914), (914, .aload_n 1, 1, 915), (915, .aload_n 0, 1, 916), (916, .iload_n 3, 1, 917), (917, .iconst 1, 1, 918), (918, .iadd, 1, 919), (919, .iaload, 1, 920), (920, .aload_n 0, 1, 921), (921, .iload_n 3, 1, 922), (922, .iconst 2, 1, 923), (923, .iadd, 1, 924), (924, .iaload, 1, 925), (925, .invokevirtual 116, 3, 928), (928, .pop, 1, 929), (929, .aload_n 2, 1, 930)] := by unfold dcl; decide +kernel
set_option maxRecDepth 20000 in
theorem DL_12 : dcl code [(930, .aload_n 0, 1, 931), (931, .iload_n 3, 1, 932), (932, .iconst 1, 1, 933), (933, .iadd, 1, 934), (934, .iaload, 1, 935), (935, .aload_n 0, 1, 936), (936, .iload_n 3, 1, 937), (937, .iconst 2, 1, 938), (938, .iadd, 1, 939), (939, .iaload, 1, 940), (940, .invokevirtual 119, 3, 943), (943, .pop, 1, 944), (944, .goto 363, 3, 947), (947, .aload_n 1, 1, 948), (948, .invokevirtual 120, 3, 951), (951, .pop, 1, 952), (952, .aload_n 2, 1, 953), (953, .invokevirtual 123, 3, 956), (956, .pop, 1, 957), (957, .goto 350, 3, 960), (960, .aload_n 1, 1, 961), (961, .invokevirtual 124, 3, 964), (964, .pop, 1, 965), (965, .aload_n 2, 1, 966), (966, .invokevirtual 127, 3, 969), (969, .pop, 1, 970), (970, .goto 337, 3, 973), (973, .aload_n 1, 1, 974), (974, .aload_n 0, 1, 975), (975, .iload_n 3, 1, 976), (976, .iconst 1, 1, 977), (977, .iadd, 1, 978), (978, .iaload, 1, 979), (979, .aload_n 0, 1, 980), (980, .iload_n 3, 1, 981), (981, .iconst 2, 1, 982), (982, .iadd, 1, 983), (983, .iaload, 1, 984), (984, .aload_n 0, 1, 985), (985, .iload_n 3, 1, 986), (986, .iconst 3, 1, 987), (987, .iadd, 1, 988), (988, .iaload, 1, 989), (989, .invokevirtual 128, 3, 992), (992, .pop, 1, 993), (993, .aload_n 2, 1, 994), (994, .aload_n 0, 1, 995), (995, .iload_n 3, 1, 996), (996, .iconst 1, 1, 997), (997, .iadd, 1, 998)] := by unfold dcl; decide +kernel
set_option maxRecDepth 20000 in
theorem DL_13 : dcl code [(998, .iaload, 1, 999), (999, .aload_n 0, 1, 1000), (1000, .iload_n 3, 1, 1001), (1001, .iconst 2, 1, 1002), (1002, .iadd, 1, 1003), (1003, .iaload, 1, 1004), (1004, .aload_n 0, 1, 1005), (1005, .iload_n 3, 1, 1006), (1006, .iconst 3, 1, 1007), (1007, .iadd, 1, 1008), (1008, .iaload, 1, 1009), (1009, .invokevirtual 131, 3, 1012), (1012, .pop, 1, 1013), (1013, .goto 294, 3, 1016), (1016, .aload_n 1, 1, 1017), (1017, .aload_n 0, 1, 1018), (1018, .iload_n 3, 1, 1019), (1019, .iconst 1, 1, 1020), (1020, .iadd, 1, 1021), (1021, .iaload, 1, 1022), (1022, .invokevirtual 132, 3, 1025), (1025, .pop, 1, 1026), (1026, .aload_n 2, 1, 1027), (1027, .aload_n 0, 1, 1028), (1028, .iload_n 3, 1, 1029), (1029, .iconst 1, 1, 1030), (1030, .iadd, 1, 1031), (1031, .iaload, 1, 1032), (1032, .invokevirtual 135, 3, 1035), (1035, .pop, 1, 1036), (1036, .goto 271, 3, 1039), (1039, .aload_n 1, 1, 1040), (1040, .aload_n 0, 1, 1041), (1041, .iload_n 3, 1, 1042), (1042, .iconst 1, 1, 1043), (1043, .iadd, 1, 1044), (1044, .iaload, 1, 1045), (1045, .aload_n 0, 1, 1046), (1046, .iload_n 3, 1, 1047), (1047, .iconst 2, 1, 1048), (1048, .iadd, 1, 1049), (1049, .iaload, 1, 1050), (1050, .invokevirtual 136, 3, 1053), (1053, .pop, 1, 1054), (1054, .aload_n 2, 1, 1055), (1055, .aload_n 0, 1, 1056), (1056, .iload_n 3, 1, 1057), (1057, .iconst 1, 1, 1058), (1058, .iadd, 1, 1059), (1059, .iaload, 1, 1060)] := by unfold dcl; decide +kernel
set_option maxRecDepth 20000 in
theorem DL_14 : dcl code [(1060, .aload_n 0, 1, 1061), (1061, .iload_n 3, 1, 1062), (1062, .iconst 2, 1, 1063), (1063, .iadd, 1, 1064), (1064, .iaload, 1, 1065), (1065, .invokevirtual 139, 3, 1068), (1068, .pop, 1, 1069), (1069, .goto 238, 3, 1072), (1072, .aload_n 1, 1, 1073), (1073, .aload_n 0, 1, 1074), (1074, .iload_n 3, 1, 1075), (1075, .iconst 1, 1, 1076), (1076, .iadd, 1, 1077), (1077, .iaload, 1, 1078), (1078, .invokevirtual 140, 3, 1081), (1081, .pop, 1, 1082), (1082, .aload_n 2, 1, 1083), (1083, .aload_n 0, 1, 1084), (1084, .iload_n 3, 1, 1085), (1085, .iconst 1, 1, 1086), (1086, .iadd, 1, 1087), (1087, .iaload, 1, 1088), (1088, .invokevirtual 143, 3, 1091), (1091, .pop, 1, 1092), (1092, .goto 215, 3, 1095), (1095, .aload_n 1, 1, 1096), (1096, .aload_n 0, 1, 1097), (1097, .iload_n 3, 1, 1098), (1098, .iconst 1, 1, 1099), (1099, .iadd, 1, 1100), (1100, .iaload, 1, 1101), (1101, .aload_n 0, 1, 1102), (1102, .iload_n 3, 1, 1103), (1103, .iconst 2, 1, 1104), (1104, .iadd, 1, 1105), (1105, .iaload, 1, 1106), (1106, .aload_n 0, 1, 1107), (1107, .iload_n 3, 1, 1108), (1108, .iconst 3, 1, 1109), (1109, .iadd, 1, 1110), (1110, .iaload, 1, 1111), (1111, .invokevirtual 144, 3, 1114), (1114, .pop, 1, 1115), (1115, .aload_n 2, 1, 1116), (1116, .aload_n 0, 1, 1117), (1117, .iload_n 3, 1, 1118), (1118, .iconst 1, 1, 1119), (1119, .iadd, 1, 1120), (1120, .iaload, 1, 1121), (1121, .aload_n 0, 1, 1122)] := by unfold dcl; decide +kernel
set_option maxRecDepth 20000 in
theorem DL_15 : dcl code [(1122, .iload_n 3, 1, 1123), (1123, .iconst 2, 1, 1124), (1124, .iadd, 1, 1125), (1125, .iaload, 1, 1126), (1126, .aload_n 0, 1, 1127), (1127, .iload_n 3, 1, 1128), (1128, .iconst 3, 1, 1129), (1129, .iadd, 1, 1130), (1130, .iaload, 1, 1131), (1131, .invokevirtual 147, 3, 1134), (1134, .pop, 1, 1135), (1135, .goto 172, 3, 1138), (1138, .aload_n 1, 1, 1139), (1139, .aload_n 0, 1, 1140), (1140, .iload_n 3, 1, 1141), (1141, .iconst 1, 1, 1142), (1142, .iadd, 1, 1143), (1143, .iaload, 1, 1144), (1144, .aload_n 0, 1, 1145), (1145, .iload_n 3, 1, 1146), (1146, .iconst 2, 1, 1147), (1147, .iadd, 1, 1148), (1148, .iaload, 1, 1149), (1149, .aload_n 0, 1, 1150), (1150, .iload_n 3, 1, 1151), (1151, .iconst 3, 1, 1152), (1152, .iadd, 1, 1153), (1153, .iaload, 1, 1154), (1154, .i2l, 1, 1155), (1155, .bipush 32, 2, 1157), (1157, .lshl, 1, 1158), (1158, .aload_n 0, 1, 1159), (1159, .iload_n 3, 1, 1160), (1160, .iconst 4, 1, 1161), (1161, .iadd, 1, 1162), (1162, .iaload, 1, 1163), (1163, .i2l, 1, 1164), (1164, .ldc2_w 148, 3, 1167), (1167, .land, 1, 1168), (1168, .lor, 1, 1169), (1169, .invokevirtual 150, 3, 1172), (1172, .pop, 1, 1173), (1173, .aload_n 2, 1, 1174), (1174, .aload_n 0, 1, 1175), (1175, .iload_n 3, 1, 1176), (1176, .iconst 1, 1, 1177), (1177, .iadd, 1, 1178), (1178, .iaload, 1, 1179), (1179, .aload_n 0, 1, 1180), (1180, .iload_n 3, 1, 1181)] := by unfold dcl; decide +kernel
set_option maxRecDepth 20000 in
theorem DL_16 : dcl code [(1181, .iconst 2, 1, 1182), (1182, .iadd, 1, 1183), (1183, .iaload, 1, 1184), (1184, .aload_n 0, 1, 1185), (1185, .iload_n 3, 1, 1186), (1186, .iconst 3, 1, 1187), (1187, .iadd, 1, 1188), (1188, .iaload, 1, 1189), (1189, .i2l, 1, 1190), (1190, .bipush 32, 2, 1192), (1192, .lshl, 1, 1193), (1193, .aload_n 0, 1, 1194), (1194, .iload_n 3, 1, 1195), (1195, .iconst 4, 1, 1196), (1196, .iadd, 1, 1197), (1197, .iaload, 1, 1198), (1198, .i2l, 1, 1199), (1199, .ldc2_w 148, 3, 1202), (1202, .land, 1, 1203), (1203, .lor, 1, 1204), (1204, .invokevirtual 154, 3, 1207), (1207, .pop, 1, 1208), (1208, .goto 99, 3, 1211), (1211, .aload_n 1, 1, 1212), (1212, .aload_n 0, 1, 1213), (1213, .iload_n 3, 1, 1214), (1214, .iconst 1, 1, 1215), (1215, .iadd, 1, 1216), (1216, .iaload, 1, 1217), (1217, .aload_n 0, 1, 1218), (1218, .iload_n 3, 1, 1219), (1219, .iconst 2, 1, 1220), (1220, .iadd, 1, 1221), (1221, .iaload, 1, 1222), (1222, .invokevirtual 155, 3, 1225), (1225, .pop2, 1, 1226), (1226, .aload_n 2, 1, 1227), (1227, .aload_n 0, 1, 1228), (1228, .iload_n 3, 1, 1229), (1229, .iconst 1, 1, 1230), (1230, .iadd, 1, 1231), (1231, .iaload, 1, 1232), (1232, .aload_n 0, 1, 1233), (1233, .iload_n 3, 1, 1234), (1234, .iconst 2, 1, 1235), (1235, .iadd, 1, 1236), (1236, .iaload, 1, 1237), (1237, .invokevirtual 158, 3, 1240), (1240, .pop2, 1, 1241), (1241, .goto 66, 3, 1244)] := by unfold dcl; decide +kernel
set_option maxRecDepth 20000 in
theorem DL_17 : dcl code [(1244, .aload_n 1, 1, 1245), (1245, .aload_n 0, 1, 1246), (1246, .iload_n 3, 1, 1247), (1247, .iconst 1, 1, 1248), (1248, .iadd, 1, 1249), (1249, .iaload, 1, 1250), (1250, .aload_n 0, 1, 1251), (1251, .iload_n 3, 1, 1252), (1252, .iconst 2, 1, 1253), (1253, .iadd, 1, 1254), (1254, .iaload, 1, 1255), (1255, .aload_n 0, 1, 1256), (1256, .iload_n 3, 1, 1257), (1257, .iconst 3, 1, 1258), (1258, .iadd, 1, 1259), (1259, .iaload, 1, 1260), (1260, .aload_n 0, 1, 1261), (1261, .iload_n 3, 1, 1262), (1262, .iconst 4, 1, 1263), (1263, .iadd, 1, 1264), (1264, .iaload, 1, 1265), (1265, .aload_n 0, 1, 1266), (1266, .iload_n 3, 1, 1267), (1267, .iconst 5, 1, 1268), (1268, .iadd, 1, 1269), (1269, .iaload, 1, 1270), (1270, .invokevirtual 159, 3, 1273), (1273, .aload_n 2, 1, 1274), (1274, .aload_n 0, 1, 1275), (1275, .iload_n 3, 1, 1276), (1276, .iconst 1, 1, 1277), (1277, .iadd, 1, 1278), (1278, .iaload, 1, 1279), (1279, .aload_n 0, 1, 1280), (1280, .iload_n 3, 1, 1281), (1281, .iconst 2, 1, 1282), (1282, .iadd, 1, 1283), (1283, .iaload, 1, 1284), (1284, .aload_n 0, 1, 1285), (1285, .iload_n 3, 1, 1286), (1286, .iconst 3, 1, 1287), (1287, .iadd, 1, 1288), (1288, .iaload, 1, 1289), (1289, .aload_n 0, 1, 1290), (1290, .iload_n 3, 1, 1291), (1291, .iconst 4, 1, 1292), (1292, .iadd, 1, 1293), (1293, .iaload, 1, 1294), (1294, .aload_n 0, 1, 1295), (1295, .iload_n 3, 1, 1296)] := by unfold dcl; decide +kernel
set_option maxRecDepth 20000 in
theorem DL_18 : dcl code [(1296, .iconst 5, 1, 1297), (1297, .iadd, 1, 1298), (1298, .iaload, 1, 1299), (1299, .invokevirtual 163, 3, 1302), (1302, .if_icmp .eq 5, 3, 1305), (1305, .iconst 0, 1, 1306), (1306, .ireturn, 1, 1307), (1307, .iinc 3 7, 3, 1310), (1310, .goto (-1292), 3, 1313), (1313, .iconst 1, 1, 1314), (1314, .ireturn, 1, 1315)] := by unfold dcl; decide +kernel
end
section
def R_law : String := "NextOneKnowsLaw"
def lw_P (b : Addr) (xs : List Int32) (args : Array Value) (s : State) : Prop := args = #[.ref b] ∧ s.IntsAt b xs ∧ xs.length ≤ 3584 ∧ (Jvm.Cond.and given_1 narrow_1).before args s = true
def lw_Q (_ : Array Value) (s : State) (o : Outcome) (t : State) : Prop := o = .returned (some (.int 1)) ∧ Framed s o t [] 600000 7302250
def lw_Z (below : List Frame) (a : Array Value) (s : State) : State → Prop := fun t => ∃ o, t.status = .running ∧ Ended t below o ∧ lw_Q a s o t
theorem lw_ret {p : Program} {l : Launch} {e : Env} {s : State} {m : MethodId} {below : List Frame} {meth : Method} {c : Code} {b : Nat} (hx : p.tables.exec = Jvm.exec) (hb : c.code = code) (hr : meth.sig.returnType = ret) (hlocks : meth.locks = false) {pc : Nat} {H : Heap} {ls : Array Slot} (hdg : decode code pc = .ok (.ireturn, 1)) : W p l e room_1 s m #[Value.ref b] below meth c H [] 600000 7302250 (lw_Z below #[Value.ref b] s) (F0 m pc ls [.int 1]) := by
  intro T hT X
  obtain ⟨fs, hret, hrun, hended, hW, hframe⟩ := X.leave (v := some (.int 1)) (hlocks := hlocks) (fun h => by rw [hr] at h; cases h)
  have hmeth' : T.vm.method? m = some meth := X.method'
  refine ⟨T.setFrames fs, ?_, .returned (some (.int 1)), hrun, hended, rfl, ⟨_, rfl⟩, hW, hframe⟩
  jvm_step X.here [X.here.top, hx, hb, hdg, hmeth', hr, ret, narrow_b1]
  (try refine ⟨rfl, ?_⟩); (try refine ⟨rfl, ?_⟩)
  first | (intro acts; rw [hret _ acts rfl rfl rfl]) | rw [hret _ _ rfl rfl rfl]
  exact Steps.refl _
def lw_At (p : Program) (s : State) (m : MethodId) (meth : Method) (c : Code) (b L : Nat) (xs : Nat → Int32) : Prop :=
  p.tables.exec = Jvm.exec ∧ c.code = code ∧ meth.sig.returnType = ret ∧ c.maxLocals = 4 ∧ s.vm.findClass R_law = some m.cls ∧ (∀ w ∈ lw_tbl, w.before #[Value.ref b] s = true) ∧ va_X b L xs s s.heap ∧ b < s.heap.size ∧ meth.locks = false ∧ (Jvm.Cond.and given_1 narrow_1).before #[Value.ref b] s = true
end
